import java.io.IOException;
import java.lang.reflect.Field;
import java.lang.reflect.Method;
import java.lang.reflect.Modifier;
import java.nio.file.Files;
import java.nio.file.Path;
import java.util.regex.Matcher;
import java.util.regex.Pattern;

/** The rules of LANGUAGE.md that can be read from the source word by word, or from its classes. */
public final class LanguageTest {
    private static final String[] FORBIDDEN = {
        "throw", "throws", "try", "catch", "finally", "synchronized", "assert", "import", "package", "protected",
        "volatile", "transient", "native", "->", "::", "@", "hashCode", "toString", "System\\.(?!arraycopy)",
        "Exact", "Object", "var"};
    private static final Check check = new Check("LanguageTest");

    public static void main(String[] args) throws IOException {
        String source = Files.readString(Path.of("src/main/java/RoadPaint.java"));
        for (int i = 0; i < source.length(); i++) {
            char c = source.charAt(i);
            check.isTrue("character " + i + " is plain", c == '\n' || c >= 32 && c < 127);
        }
        String code = source.replaceAll("(?s)/\\*.*?\\*/", "").replaceAll("//[^\n]*", "")
                .replaceAll("\"[^\"\n]*\"", "\"\"");
        for (String word : FORBIDDEN) {
            boolean isWord = Character.isLetter(word.charAt(0)) && word.indexOf('\\') < 0;
            Matcher matcher = Pattern.compile(isWord ? "\\b" + word + "\\b" : word).matcher(code);
            check.isTrue("no " + word, !matcher.find());
        }
        check.isTrue("each loop has a bound", !Pattern.compile("while \\(true\\)|for \\([^;]*;\\s*;").matcher(code).find());
        shortMethods(source);
        Class<?>[] inside = RoadPaint.class.getDeclaredClasses();
        check.isTrue("at most 12 classes", inside.length + 1 <= 12);
        smallClass(RoadPaint.class);
        for (Class<?> one : inside) {
            check.isTrue(one + " is static", Modifier.isStatic(one.getModifiers()));
            check.due(one + ", classes inside it", one.getDeclaredClasses().length, 0);
            smallClass(one);
        }
        check.end();
    }

    /** The rules 3, 5 and 11: the types and the number of fields, and the number of parameters. */
    private static void smallClass(Class<?> one) {
        int own = 0;
        for (Field field : one.getDeclaredFields()) {
            if (Modifier.isStatic(field.getModifiers())) {
                check.isTrue(field + " is a constant", Modifier.isFinal(field.getModifiers()));
                check.isTrue(field + " is a number or a text",
                        field.getType().isPrimitive() || field.getType() == String.class);
            } else {
                own++;
            }
            check.isTrue(field + " has a type of the rules", isOfTheRules(field.getType()));
        }
        check.isTrue(one + " has at most 20 fields", own <= 20);
        for (Method method : one.getDeclaredMethods()) {
            check.isTrue(method + " has at most 7 parameters", method.getParameterCount() <= 7);
            for (Class<?> type : method.getParameterTypes()) {
                check.isTrue(method + " takes types of the rules", isOfTheRules(type));
            }
        }
    }

    private static boolean isOfTheRules(Class<?> type) {
        if (type.isArray() && !type.getComponentType().isArray()) {
            return isOfTheRules(type.getComponentType());
        }
        return type.isPrimitive() || type == String.class || type.getName().startsWith("RoadPaint");
    }

    /** A method of the class or of a class inside it ends with a brace at its own depth. */
    private static void shortMethods(String source) {
        int begin = 0;
        String[] lines = source.split("\n");
        for (int i = 0; i < lines.length; i++) {
            if (lines[i].matches("( {4}| {8})[a-zA-Z].*\\) \\{") && !lines[i].matches(".* (if|for|while|switch) .*")) {
                begin = i;
            }
            if (lines[i].matches("( {4}| {8})\\}") && begin > 0) {
                check.isTrue("the method of line " + (begin + 1) + " is short", i - begin < 60);
                begin = 0;
            }
        }
    }
}
