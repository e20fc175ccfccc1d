/** Promises 19 to 22: append, clearText, errorPosition, carryOut. */
public final class TextsTest {
    private static final Check check = new Check("TextsTest");

    public static void main(String[] args) {
        promise19Append();
        promise20ClearText();
        promise21EachOrder();
        promise21Texts();
        promise21FullBuffer();
        promise22CarryOut();
        promise22FullBuffer();
        promise22StopsAtAnError();
        promise22Records();
        promise22BadText();
        check.end();
    }

    private static void promise19Append() {
        RoadPaint x = new RoadPaint();
        check.due("32", x.append(32), RoadPaint.BAD_VALUE);
        check.due("127", x.append(127), RoadPaint.BAD_VALUE);
        check.due("-1", x.append(-1), RoadPaint.BAD_VALUE);
        check.due("65536 + 97", x.append(65536 + 97), RoadPaint.BAD_VALUE);
        for (int i = 1; i <= 70; i++) {
            check.due("character " + i, x.append(i % 2 == 0 ? 33 : 126), i);
        }
        check.due("character 71", x.append(97), RoadPaint.LIMIT);
        check.due("out of range comes first", x.append(32), RoadPaint.BAD_VALUE);
        check.due("it holds", x.clearText(), 70);
        check.due("it records nothing", x.undo(), RoadPaint.NOT_POSSIBLE);
    }

    private static void promise20ClearText() {
        RoadPaint x = new RoadPaint();
        check.due("an empty buffer", x.clearText(), 0);
        Check.write(x, "a0a");
        check.due("three characters", x.clearText(), 3);
        check.due("empty then", x.clearText(), 0);
        check.due("the next is the first", x.append(100), 1);
        check.due("nothing of the old is left", x.errorPosition(), RoadPaint.NONE);
        check.due("it records nothing", x.undo(), RoadPaint.NOT_POSSIBLE);
    }

    private static int errorOf(String text) {
        RoadPaint x = new RoadPaint();
        Check.write(x, text);
        return x.errorPosition();
    }

    /** At each place of each order just the characters that it names are no error. */
    private static void promise21EachOrder() {
        String miles = "abcdefghijklmnop";
        String[][] orders = {
            {"a", "012", miles, "udb"}, {"w", "012", miles, "0123"}, {"l", "01", miles, "0123"},
            {"n", miles, miles}, {"d"}};
        for (String[] order : orders) {
            String ahead = "";
            for (int place = 0; place < order.length; place++) {
                boolean last = place + 1 == order.length;
                for (char c = 33; c <= 126; c++) {
                    String letters = place == 0 ? "awlnd" : order[place];
                    if (place > 0 || order[0].charAt(0) == c || letters.indexOf(c) < 0) {
                        int whole = last ? RoadPaint.NONE : place + 1;
                        int due = letters.indexOf(c) < 0 ? place : whole;
                        check.due(ahead + c, errorOf(ahead + c), due);
                    }
                }
                ahead += order[place].charAt(0);
            }
            for (char c = 33; c <= 126; c++) {
                check.due(ahead + c, errorOf(ahead + c), c == ';' ? order.length + 1 : order.length);
            }
        }
    }

    private static void promise21Texts() {
        check.due("an empty buffer", errorOf(""), 0);
        check.due("a separator first", errorOf(";d"), 0);
        check.due("two separators", errorOf("d;;d"), 2);
        check.due("a separator last", errorOf("d;"), 2);
        check.due("three orders", errorOf("d;nap;a2pb"), RoadPaint.NONE);
        check.due("an open second order", errorOf("d;na"), 4);
        check.due("the first of two errors", errorOf("d;w3x"), 3);
        check.due("the separator too early", errorOf("w0;d"), 2);
        check.due("none missing", errorOf("ddd"), 1);
        check.due("capitals", errorOf("D"), 0);
    }

    private static void promise21FullBuffer() {
        String full = "d;d;d;d;d;d;d;d;d;d;d;d;d;d;d;d;d;d;d;d;d;d;d;d;d;d;d;d;d;d;d;d;d;d;";
        check.due("68 and a separator last", errorOf(full), 68);
        check.due("70 and a separator last", errorOf(full + "d;"), 70);
        check.due("70 with an open order", errorOf(full + "a0"), 70);
        check.due("69 characters of a text", errorOf(full + "d"), RoadPaint.NONE);
        check.due("70 with an error", errorOf(full + "dx"), 69);
        check.due("70 characters of a text", errorOf("nab;" + full.substring(0, 66)), 70);
        check.due("70 characters of a text", errorOf("w0a0;" + full.substring(0, 65)), RoadPaint.NONE);
    }

    private static void promise22CarryOut() {
        RoadPaint x = new RoadPaint();
        Check.write(x, "a0au;a1bd;a2pb;w0c0;w1d1;w2e2;w0f3;l0g1;l1h2;l0i3;l0g0;d;nap");
        check.due("carried out", x.carryOut(), 13);
        check.due("arrow up", x.cell(0, 0, 0), 0);
        check.due("arrow down", x.cell(1, 1, 0), 1);
        check.due("arrow both ways", x.cell(2, 15, 0), 2);
        check.due("SLOW", x.cell(0, 2, 2), 0);
        check.due("STOP", x.cell(1, 3, 2), 1);
        check.due("BUS", x.cell(2, 4, 2), 2);
        check.due("BIKE", x.cell(0, 5, 2), 3);
        check.due("removed dash", x.line(0, 6, 0), 0);
        check.due("broken", x.line(1, 7, 0), 2);
        check.due("both", x.line(0, 8, 0), 3);
        check.due("a day", x.total(5), 1);
        check.due("a night", x.total(6), 1);
        check.due("strength after a day", x.cell(2, 4, 3), 95);
        check.due("the buffer is empty", x.clearText(), 0);
        RoadPaint y = new RoadPaint();
        y.traffic(0, 20);
        Check.write(y, "w0a2;w0b2;w0c2;d;d;d;nca");
        y.set(1, 1);
        check.due("carried out", y.carryOut(), 7);
        check.due("a night downwards", y.cell(0, 2, 3), 100);
        check.due("did not reach", y.cell(0, 0, 3), 40);
        check.due("cans", y.total(4), 19);
    }

    private static void promise22FullBuffer() {
        RoadPaint x = new RoadPaint();
        Check.write(x, "w0a0;" + "d;".repeat(30) + "nap;d");
        check.due("70 characters", x.append(100), RoadPaint.LIMIT);
        check.due("33 orders", x.carryOut(), 33);
        check.due("days", x.total(5), 31);
        check.due("nights", x.total(6), 1);
        RoadPaint y = new RoadPaint();
        Check.write(y, "a0au");
        y.clearText();
        Check.write(y, "d");
        check.due("nothing of an older text", y.carryOut(), 1);
        check.due("no arrow", y.total(0), 0);
    }

    private static void promise22StopsAtAnError() {
        RoadPaint x = new RoadPaint();
        Check.write(x, "a0au;a0bd;d;w0a0");
        check.due("the second arrow is refused", x.carryOut(), 1);
        check.due("no day", x.total(5), 0);
        check.due("no word", x.total(1), 0);
        check.due("the buffer is empty", x.clearText(), 0);
        RoadPaint y = new RoadPaint();
        y.traffic(0, 20);
        for (int mile = 0; mile < 10; mile++) {
            y.word(0, mile, 2);
            y.arrow(0, mile, 0);
        }
        y.pass(3);
        y.set(1, 40);
        Check.write(y, "d;nap;nap;d");
        check.due("a night without cans", y.carryOut(), 2);
        check.due("days", y.total(5), 4);
        check.due("nights", y.total(6), 1);
        check.due("cans", y.total(4), 0);
        RoadPaint z = new RoadPaint();
        z.arrow(0, 0, 0);
        Check.write(z, "a0bd");
        check.due("none is carried out", z.carryOut(), 0);
        check.due("the buffer is empty", z.clearText(), 0);
        check.due("a state is recorded all the same", z.undo(), 1);
    }

    private static void promise22Records() {
        RoadPaint x = new RoadPaint();
        x.word(2, 9, 0);
        Check.write(x, "w0a0;w0b0;w0c0;w0d0;w0e0;w0f0;w0g0");
        check.due("carried out", x.carryOut(), 7);
        check.due("one state", x.undo(), 1);
        check.due("all orders are undone", x.total(1), 1);
        check.due("the buffer is not brought back", x.clearText(), 0);
        check.due("the state ahead", x.undo(), 0);
    }

    private static void promise22BadText() {
        RoadPaint x = new RoadPaint();
        check.due("an empty buffer", x.carryOut(), RoadPaint.BAD_TEXT);
        Check.write(x, "w0a0;d;");
        check.due("a separator last", x.carryOut(), RoadPaint.BAD_TEXT);
        check.due("nothing is carried out", x.total(1), 0);
        check.due("the buffer stays", x.append(100), 8);
        check.due("nothing is recorded", x.undo(), RoadPaint.NOT_POSSIBLE);
        check.due("a text now", x.carryOut(), 3);
    }
}
