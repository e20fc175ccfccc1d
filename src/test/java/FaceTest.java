import java.lang.reflect.Constructor;
import java.lang.reflect.Field;
import java.lang.reflect.Method;
import java.lang.reflect.Modifier;
import java.util.HashSet;
import java.util.Set;

/** The public face and its constants, and rule 1 of LANGUAGE.md. */
public final class FaceTest {
    private static final String[] METHODS = {
        "arrow 3", "word 3", "dash 3", "erase 2", "set 2", "traffic 2", "bring 1", "pass 1", "night 2",
        "cell 3", "line 3", "mayChange 4", "total 1", "whyNot 3", "readableFor 2", "bestNight 0",
        "fewestChanges 2", "append 1", "clearText 0", "errorPosition 0", "carryOut 0", "undo 0",
        "save 0", "restore 0"};
    private static final Check check = new Check("FaceTest");

    public static void main(String[] args) {
        constants();
        methods();
        nothingElse();
        check.end();
    }

    private static void constants() {
        check.due("NO_SUCH", RoadPaint.NO_SUCH, -1);
        check.due("BAD_VALUE", RoadPaint.BAD_VALUE, -2);
        check.due("NOT_POSSIBLE", RoadPaint.NOT_POSSIBLE, -3);
        check.due("LIMIT", RoadPaint.LIMIT, -4);
        check.due("BAD_TEXT", RoadPaint.BAD_TEXT, -5);
        check.due("NONE", RoadPaint.NONE, -6);
    }

    private static void methods() {
        Set<String> faces = new HashSet<>(Set.of(METHODS));
        Set<String> names = new HashSet<>();
        for (String method : METHODS) {
            names.add(method.substring(0, method.indexOf(' ')));
        }
        for (Method method : RoadPaint.class.getDeclaredMethods()) {
            String face = method.getName() + " " + method.getParameterCount();
            if (Modifier.isPublic(method.getModifiers())) {
                check.isTrue(face + " is of the face", faces.remove(face));
                check.isTrue(face + " answers an int", method.getReturnType() == int.class);
                check.isTrue(face + " is of an object", !Modifier.isStatic(method.getModifiers()));
            } else {
                check.isTrue(face + " is private", Modifier.isPrivate(method.getModifiers()));
                check.isTrue(face + " has a name of its own", !names.contains(method.getName()));
            }
        }
        check.isTrue("missing: " + faces, faces.isEmpty());
    }

    private static void nothingElse() {
        check.isTrue("final", Modifier.isFinal(RoadPaint.class.getModifiers()));
        int publicFields = 0;
        for (Field field : RoadPaint.class.getDeclaredFields()) {
            int modifiers = field.getModifiers();
            if (Modifier.isPublic(modifiers)) {
                publicFields++;
            } else {
                check.isTrue(field.getName() + " is private", Modifier.isPrivate(modifiers));
            }
            if (Modifier.isStatic(modifiers)) {
                check.isTrue(field.getName() + " is final", Modifier.isFinal(modifiers));
            }
        }
        check.due("public constants", publicFields, 6);
        Constructor<?>[] constructors = RoadPaint.class.getDeclaredConstructors();
        check.due("constructors", constructors.length, 1);
        check.due("its parameters", constructors[0].getParameterCount(), 0);
        for (Class<?> inner : RoadPaint.class.getDeclaredClasses()) {
            check.isTrue(inner.getName() + " is static", Modifier.isStatic(inner.getModifiers()));
            check.isTrue(inner.getName() + " is not public", !Modifier.isPublic(inner.getModifiers()));
        }
    }
}
