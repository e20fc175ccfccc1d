import java.lang.reflect.Method;
import java.util.List;

/**
 * The range of each argument of each method: all values in it are taken, those beside it and far
 * outside are refused and change nothing, and a place that does not exist comes first.
 */
public final class ArgumentsTest {
    private static final int NO_SUCH = RoadPaint.NO_SUCH;
    private static final int BAD_VALUE = RoadPaint.BAD_VALUE;
    private static final Check check = new Check("ArgumentsTest");

    /** An argument: its error code, its range, and a value with which the method does its work. */
    private record Argument(String sentence, int code, int low, int high, int usual) {
    }

    private record Face(String method, Argument... arguments) {
    }

    private static final List<Face> FACES = List.of(
            new Face("arrow", lane(), mile(), value("BAD_VALUE if way is out of range", 0, 2, 0)),
            new Face("word", lane(), mile(), value("BAD_VALUE if word is out of range", 0, 3, 2)),
            new Face("dash", line(), mile(), value("BAD_VALUE if dash is out of range", 0, 3, 2)),
            new Face("erase", lane(), mile()),
            new Face("traffic", lane(), value("BAD_VALUE if traffic is out of range", 0, 20, 9)),
            new Face("bring", value("BAD_VALUE if cans is out of range", 1, 99, 2)),
            new Face("pass", value("BAD_VALUE if days is out of range", 1, 30, 2)),
            new Face("night", mile(), mile()),
            new Face("cell", lane(), mile(), value("BAD_VALUE if part is out of range", 0, 6, 0)),
            new Face("line", line(), mile(), value("BAD_VALUE if part is out of range", 0, 1, 0)),
            new Face("total", value("BAD_VALUE if what is out of range", 0, 14, 0)),
            new Face("whyNot", lane(), mile(), value("BAD_VALUE if way is out of range", 0, 2, 0)),
            new Face("readableFor", lane(), mile()),
            new Face("fewestChanges", value("BAD_VALUE if way is out of range", 0, 1, 0), lane()),
            new Face("append", value("BAD_VALUE if code is out of range", 33, 126, 97)));

    public static void main(String[] args) throws ReflectiveOperationException {
        for (Face face : FACES) {
            for (int i = 0; i < face.arguments.length; i++) {
                check.sentence(face.method + ": " + face.arguments[i].sentence);
                takesItsRange(face, i);
                refusesTheRest(face, i);
                noSuchComesFirst(face, i);
            }
        }
        settings();
        lanesOfMayChange();
        mileAndWayOfMayChange();
        lanesBesideOneAnother();
        check.end();
    }

    private static Argument lane() {
        return new Argument("NO_SUCH if there is no such lane", NO_SUCH, 0, 2, 1);
    }

    private static Argument line() {
        return new Argument("NO_SUCH if there is no such line", NO_SUCH, 0, 1, 1);
    }

    private static Argument mile() {
        return new Argument("NO_SUCH if there is no such mile", NO_SUCH, 0, 15, 8);
    }

    private static Argument value(String sentence, int low, int high, int usual) {
        return new Argument(sentence, BAD_VALUE, low, high, usual);
    }

    private static int[] outside(int low, int high) {
        return new int[] {low - 1, high + 1, low - 16, high + 16, low - 65536, high + 65536,
            Integer.MIN_VALUE, Integer.MIN_VALUE + low, Integer.MAX_VALUE};
    }

    private static int[] usual(Face face) {
        int[] arguments = new int[face.arguments.length];
        for (int i = 0; i < arguments.length; i++) {
            arguments[i] = face.arguments[i].usual;
        }
        return arguments;
    }

    private static int call(RoadPaint x, String method, int[] arguments) throws ReflectiveOperationException {
        Class<?>[] types = new Class<?>[arguments.length];
        Object[] values = new Object[arguments.length];
        for (int i = 0; i < arguments.length; i++) {
            types[i] = int.class;
            values[i] = arguments[i];
        }
        Method found = RoadPaint.class.getMethod(method, types);
        return (Integer) found.invoke(x, values);
    }

    private static void takesItsRange(Face face, int i) throws ReflectiveOperationException {
        int[] arguments = usual(face);
        for (int value = face.arguments[i].low; value <= face.arguments[i].high; value++) {
            arguments[i] = value;
            int answer = call(new RoadPaint(), face.method, arguments);
            check.isTrue(value + " is taken", answer != NO_SUCH && answer != BAD_VALUE);
        }
    }

    private static void refusesTheRest(Face face, int i) throws ReflectiveOperationException {
        int[] arguments = usual(face);
        for (int value : outside(face.arguments[i].low, face.arguments[i].high)) {
            arguments[i] = value;
            refused(face.method, arguments, face.arguments[i].code);
        }
    }

    /** Makes a call on one of two roads that are alike; nothing may show on which. */
    private static void refused(String method, int[] arguments, int due) throws ReflectiveOperationException {
        String name = method + java.util.Arrays.toString(arguments);
        RoadPaint x = Roads.busy();
        check.due(name, call(x, method, arguments), due);
        check.allDue(name + ", then the road", Roads.picture(x), Roads.picture(Roads.busy()));
        RoadPaint y = Roads.busy();
        call(y, method, arguments);
        check.allDue(name + ", then what is kept", Roads.behindThePicture(y), Roads.behindThePicture(Roads.busy()));
    }

    /** With an argument out of its range of each code, NO_SUCH is the answer. */
    private static void noSuchComesFirst(Face face, int i) throws ReflectiveOperationException {
        for (int other = 0; other < face.arguments.length; other++) {
            if (face.arguments[i].code == NO_SUCH && face.arguments[other].code == BAD_VALUE) {
                for (int place : new int[] {face.arguments[i].low - 1, face.arguments[i].high + 1}) {
                    for (int value : new int[] {face.arguments[other].low - 1, face.arguments[other].high + 1}) {
                        int[] arguments = usual(face);
                        arguments[i] = place;
                        arguments[other] = value;
                        refused(face.method, arguments, NO_SUCH);
                    }
                }
            }
        }
    }

    private static void settings() throws ReflectiveOperationException {
        int[] most = {100, 40};
        check.sentence("set: NO_SUCH if there is no such setting");
        for (int setting : outside(0, 1)) {
            for (int value : new int[] {1, 0, 101, -1}) {
                refused("set", new int[] {setting, value}, NO_SUCH);
            }
        }
        check.sentence("set: BAD_VALUE if value is out of its range");
        for (int setting = 0; setting < 2; setting++) {
            for (int value : outside(1, most[setting])) {
                refused("set", new int[] {setting, value}, BAD_VALUE);
            }
            RoadPaint x = new RoadPaint();
            int before = x.total(13 + setting);
            for (int value = 1; value <= most[setting]; value++) {
                check.due("set " + setting + " to " + value, x.set(setting, value), before);
                check.due("it is", x.total(13 + setting), value);
                before = value;
            }
        }
    }

    private static void lanesOfMayChange() throws ReflectiveOperationException {
        check.sentence("mayChange: NO_SUCH if there is no such lane");
        for (int lane : outside(0, 2)) {
            for (int other = 0; other < 3; other++) {
                refused("mayChange", new int[] {lane, other, 8, 0}, NO_SUCH);
                refused("mayChange", new int[] {other, lane, 8, 0}, NO_SUCH);
            }
            refused("mayChange", new int[] {lane, lane, 8, 0}, NO_SUCH);
            refused("mayChange", new int[] {lane, 1, 8, 2}, NO_SUCH);
            refused("mayChange", new int[] {1, lane, 8, -1}, NO_SUCH);
        }
    }

    private static void mileAndWayOfMayChange() throws ReflectiveOperationException {
        check.sentence("mayChange: NO_SUCH if there is no such mile");
        for (int mile : outside(0, 15)) {
            refused("mayChange", new int[] {0, 1, mile, 0}, NO_SUCH);
            refused("mayChange", new int[] {0, 2, mile, 0}, NO_SUCH);
            refused("mayChange", new int[] {0, 1, mile, 2}, NO_SUCH);
        }
        for (int mile = 0; mile < 16; mile++) {
            check.due("the mile " + mile, new RoadPaint().mayChange(0, 1, mile, 0), 1);
        }
        check.sentence("mayChange: BAD_VALUE if way is out of range");
        for (int way : outside(0, 1)) {
            refused("mayChange", new int[] {1, 2, 8, way}, BAD_VALUE);
        }
        for (int way = 0; way < 2; way++) {
            check.due("the way " + way, new RoadPaint().mayChange(1, 2, 8, way), 1);
        }
    }

    private static void lanesBesideOneAnother() throws ReflectiveOperationException {
        check.sentence("BAD_VALUE if the lanes are not beside one another");
        for (int from = 0; from < 3; from++) {
            for (int to = 0; to < 3; to++) {
                if (Math.abs(from - to) == 1) {
                    check.due(from + " to " + to, new RoadPaint().mayChange(from, to, 8, 0), 1);
                } else {
                    refused("mayChange", new int[] {from, to, 8, 0}, BAD_VALUE);
                }
            }
        }
    }
}
