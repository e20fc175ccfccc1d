/** The edges of the buffer, of texts and of their orders; promises 19 to 22. */
public final class TextEdgesTest {
    private static final int NONE = RoadPaint.NONE;
    private static final String MILES = "abcdefghijklmnop";
    private static final Check check = new Check("TextEdgesTest");

    public static void main(String[] args) {
        codesOfCharacters();
        seventyCharacters();
        emptiedBuffer();
        anyCharacterIsKept();
        ordersBetweenSeparators();
        firstLetters();
        lanesOfOrders();
        linesOfOrders();
        milesOfOrders();
        waysOfOrders();
        wordsAndDashesOfOrders();
        lengthsOfOrders();
        firstError();
        notYetAText();
        emptyBufferIsNoText();
        fullBuffer();
        textsThatAreTexts();
        oneAfterTheOther();
        placesOfOrders();
        kindsOfOrders();
        nightsAndDaysOfOrders();
        longestTexts();
        upToARefusedArrow();
        upToANightWithoutCans();
        noOrderIsCarriedOut();
        emptiesTheBuffer();
        oneState();
        oneStateOfNoOrder();
        badTextStays();
        check.end();
    }

    private static RoadPaint with(String text) {
        RoadPaint x = new RoadPaint();
        Check.write(x, text);
        return x;
    }

    private static int errorOf(String text) {
        return with(text).errorPosition();
    }

    private static void codesOfCharacters() {
        check.sentence("code: 33 to 126; BAD_VALUE if code is out of range");
        for (int code = -300; code < 700; code++) {
            int due = code < 33 || code > 126 ? RoadPaint.BAD_VALUE : 1;
            check.due("append(" + code + ")", new RoadPaint().append(code), due);
        }
        RoadPaint x = with("d");
        x.append(32);
        x.append(127);
        x.append(65536 + ';');
        check.due("nothing is appended", x.clearText(), 1);
    }

    private static void seventyCharacters() {
        check.sentence("A buffer of at most 70 characters; LIMIT if the buffer contains 70 characters");
        RoadPaint x = new RoadPaint();
        for (int i = 1; i <= 70; i++) {
            check.due("character " + i, x.append(33 + i), i);
        }
        check.due("character 71", x.append('d'), RoadPaint.LIMIT);
        check.due("character 71 again", x.append('d'), RoadPaint.LIMIT);
        check.due("it holds", x.clearText(), 70);
        check.due("the first again", x.append('d'), 1);
        Check.write(x, ";d".repeat(34) + ";");
        check.due("70 again", x.append('d'), RoadPaint.LIMIT);
        check.due("an open text of 70", x.errorPosition(), 70);
    }

    private static void emptiedBuffer() {
        check.sentence("Empties the buffer and returns the number of characters that it contained");
        check.due("empty", new RoadPaint().clearText(), 0);
        for (int length = 1; length <= 70; length++) {
            RoadPaint x = with("x".repeat(length));
            check.due("length " + length, x.clearText(), length);
            check.due("emptied", x.clearText(), 0);
            check.due("no text", x.errorPosition(), 0);
            Check.write(x, "d");
            check.due("a text from the begin", x.errorPosition(), NONE);
        }
    }

    private static void anyCharacterIsKept() {
        check.sentence("Appends a character to the buffer (an error, too)");
        RoadPaint x = with("d!~");
        check.due("the first error", x.errorPosition(), 1);
        Check.write(x, ";d");
        check.due("still the first error", x.errorPosition(), 1);
        check.due("length", x.clearText(), 5);
    }

    private static void ordersBetweenSeparators() {
        check.sentence("text = order { \";\" order }");
        check.due("an order", errorOf("d"), NONE);
        check.due("two orders", errorOf("d;d"), NONE);
        check.due("a separator ahead", errorOf(";d"), 0);
        check.due("a separator alone", errorOf(";"), 0);
        check.due("two separators", errorOf("d;;"), 2);
        check.due("a separator behind", errorOf("d;"), 2);
        check.due("no separator", errorOf("dd"), 1);
        check.due("a comma", errorOf("d,d"), 1);
        check.due("no separator behind an arrow", errorOf("a0aud"), 4);
        check.due("no separator behind a night", errorOf("nabd"), 3);
    }

    private static void firstLetters() {
        check.sentence("order = \"a\" .. | \"w\" .. | \"l\" .. | \"n\" .. | \"d\"");
        for (char c = 33; c < 127; c++) {
            int due = c == 'd' ? NONE : "awln".indexOf(c) >= 0 ? 1 : 0;
            check.due("" + c, errorOf("" + c), due);
            int later = c == 'd' ? NONE : "awln".indexOf(c) >= 0 ? 3 : 2;
            check.due("d;" + c, errorOf("d;" + c), later);
        }
    }

    /** Just these characters may stand between what is ahead and what is behind. */
    private static void only(String ahead, String characters, String behind) {
        for (char c = 33; c < 127; c++) {
            int due = characters.indexOf(c) >= 0 ? NONE : ahead.length();
            check.due(ahead + c + behind, errorOf(ahead + c + behind), due);
        }
    }

    private static void lanesOfOrders() {
        check.sentence("A lane is a digit from 0 to 2");
        only("a", "012", "au");
        only("w", "012", "a0");
        only("d;w", "012", "p3");
    }

    private static void linesOfOrders() {
        check.sentence("a line a digit 0 or 1");
        only("l", "01", "a0");
        only("nap;l", "01", "p3");
    }

    private static void milesOfOrders() {
        check.sentence("a mile a letter from \"a\" to \"p\" for the miles 0 to 15");
        only("a0", MILES, "u");
        only("w2", MILES, "3");
        only("l1", MILES, "2");
        only("n", MILES, "a");
        only("n", MILES, "p");
        only("na", MILES, "");
        only("np", MILES, "");
    }

    private static void waysOfOrders() {
        check.sentence("a way is \"u\", \"d\" or \"b\" for the ways 0, 1 and 2");
        only("a0a", "udb", "");
        only("a2p", "udb", ";d");
        String ways = "udb";
        for (int way = 0; way < 3; way++) {
            RoadPaint x = with("a1h" + ways.charAt(way));
            check.due("set", x.carryOut(), 1);
            check.due("way " + way, x.cell(1, 7, 0), way);
        }
    }

    private static void wordsAndDashesOfOrders() {
        check.sentence("a word is a digit from 0 to 3, a dash a digit from 0 to 3");
        only("w0a", "0123", "");
        only("w2p", "0123", ";d");
        only("l0a", "0123", "");
        only("l1p", "0123", ";d");
    }

    private static void lengthsOfOrders() {
        check.sentence("\"a\" lane mile way | \"w\" lane mile word | \"l\" line mile dash | \"n\" mile mile | \"d\"");
        for (String order : new String[] {"a1gd", "w2b3", "l1p2", "ngb", "d"}) {
            for (int length = 1; length < order.length(); length++) {
                check.due("a part", errorOf(order.substring(0, length)), length);
                check.due("too short", errorOf(order.substring(0, length) + ";"), length);
            }
            check.due(order, errorOf(order), NONE);
            check.due("too long", errorOf(order + "0"), order.length());
            check.due("too long", errorOf(order + "a"), order.length());
        }
    }

    private static void firstError() {
        check.sentence("Returns the index of the first character that is an error");
        check.due("at the begin", errorOf("xd"), 0);
        check.due("the first of several", errorOf("d;w9z9;x"), 3);
        check.due("behind a text", errorOf("d;dx;x"), 3);
        for (int orders = 0; orders < 35; orders++) {
            check.due("behind " + orders + " orders", errorOf("d;".repeat(orders) + "x"), 2 * orders);
        }
        check.due("an error that would fit elsewhere", errorOf("wa00"), 1);
        check.due("a mile in place of a lane", errorOf("aa0u"), 1);
    }

    private static void notYetAText() {
        check.sentence("if there is none and the buffer is not a text, the number of characters in the buffer");
        check.due("an open arrow", errorOf("a0a"), 3);
        check.due("an open word", errorOf("d;w0"), 4);
        check.due("an open dash", errorOf("d;l"), 3);
        check.due("an open night", errorOf("d;na"), 4);
        check.due("a separator last", errorOf("nap;"), 4);
    }

    private static void emptyBufferIsNoText() {
        check.sentence("the buffer is not a text (an empty one)");
        RoadPaint x = new RoadPaint();
        check.due("its error", x.errorPosition(), 0);
        check.due("it is not carried out", x.carryOut(), RoadPaint.BAD_TEXT);
        check.due("nothing to undo", x.undo(), RoadPaint.NOT_POSSIBLE);
    }

    private static void fullBuffer() {
        check.sentence("A character is an error if no text begins with the characters ahead of it and this character");
        String orders = "d;".repeat(34);
        check.due("68 and an open night", errorOf(orders + "na"), 70);
        check.due("69, a text", errorOf(orders + "d"), NONE);
        check.due("70, a separator last", errorOf(orders + "d;"), 70);
        check.due("70, an error last", errorOf(orders + "dd"), 69);
        check.due("70, an error ahead", errorOf(orders + "xd"), 68);
        check.due("70, a text", errorOf("nap;" + "d;".repeat(31) + "w0a0"), NONE);
    }

    private static void textsThatAreTexts() {
        check.sentence("NONE if the buffer is a text");
        check.due("all orders", errorOf("a0au;w2p3;l1h0;nab;d"), NONE);
        check.due("the same order again", errorOf("d;d;d;d;d;d"), NONE);
        check.due("a refused arrow is of a text", errorOf("a0au;a0bd"), NONE);
        RoadPaint x = with("d");
        check.due("asked once", x.errorPosition(), NONE);
        check.due("asked twice", x.errorPosition(), NONE);
        check.due("it stays", x.clearText(), 1);
    }

    private static void oneAfterTheOther() {
        check.sentence("Carries out the orders in the buffer one after the other");
        RoadPaint x = with("w0a1;w0a2;d;a0bu;l0c1;l0c2;a0bb");
        check.due("orders", x.carryOut(), 7);
        check.due("the later word", x.cell(0, 0, 2), 2);
        check.due("the later dash", x.line(0, 2, 0), 2);
        check.due("the later arrow", x.cell(0, 1, 0), 2);
        check.due("the day is ahead of it", x.cell(0, 1, 1), 100);
        check.due("and behind this", x.cell(0, 0, 3), 95);
    }

    private static void placesOfOrders() {
        check.sentence("\"a\" to \"p\" for the miles 0 to 15 (carried out)");
        for (int mile = 0; mile < 16; mile++) {
            for (int lane = 0; lane < 3; lane++) {
                String place = lane + "" + MILES.charAt(mile);
                RoadPaint x = with("a" + place + "d;w" + place + "3" + (lane < 2 ? ";l" + place + "2" : ""));
                check.due("orders at " + place, x.carryOut(), lane < 2 ? 3 : 2);
                check.due("arrow", x.cell(lane, mile, 0), 1);
                check.due("word", x.cell(lane, mile, 2), 3);
                check.due("dash", x.line(Math.min(lane, 1), mile, 0), lane < 2 ? 2 : 0);
                check.due("signs", x.total(9), lane < 2 ? 300 : 200);
            }
        }
    }

    private static void kindsOfOrders() {
        check.sentence("\"w\" paints a word, \"l\" paints a dash");
        for (int kind = 0; kind < 4; kind++) {
            RoadPaint x = with("w0a" + kind + ";l0a1;l0a" + kind);
            check.due("orders", x.carryOut(), 3);
            check.due("word", x.cell(0, 0, 2), kind);
            check.due("dash", x.line(0, 0, 0), kind);
            check.due("its strength", x.line(0, 0, 1), kind == 0 ? 0 : 100);
        }
    }

    private static void nightsAndDaysOfOrders() {
        check.sentence("\"n\" sends a crew for a night, and \"d\" lets a day pass");
        for (int from = 0; from < 16; from++) {
            RoadPaint x = Roads.faded(0, 1, 2, 3, 4, 5, 6, 7, 8, 9, 10, 11, 12, 13, 14, 15);
            x.set(1, 2);
            int to = 15 - from;
            Check.write(x, "n" + MILES.charAt(from) + MILES.charAt(to));
            check.due("a night", x.carryOut(), 1);
            check.due("the mile " + from, x.cell(2, from, 3), 100);
            check.due("the next mile", x.cell(2, from < to ? from + 1 : from - 1, 3), 100);
            check.due("signs", x.total(7), 2);
            check.due("nights", x.total(6), 1);
            Check.write(x, "d");
            check.due("a day", x.carryOut(), 1);
            check.due("days", x.total(5), 4);
            check.due("the mile " + from, x.cell(2, from, 3), 80);
        }
    }

    private static void longestTexts() {
        check.sentence("A buffer of at most 70 characters holds orders (carried out)");
        RoadPaint x = with("d;".repeat(34) + "d");
        check.due("69 characters", x.carryOut(), 35);
        check.due("days", x.total(5), 35);
        RoadPaint y = with("nap;" + "d;".repeat(31) + "w2p1");
        check.due("70 characters", y.carryOut(), 33);
        check.due("the last order", y.cell(2, 15, 2), 1);
        RoadPaint z = with("w0a0;".repeat(14));
        check.due("70 characters, a separator last", z.carryOut(), RoadPaint.BAD_TEXT);
        check.due("no word", z.total(1), 0);
    }

    private static void upToARefusedArrow() {
        check.sentence("up to the first one whose method would return an error code (arrow())");
        RoadPaint x = with("w0p0;a0au;a0bd;w0o0;a0bu;d");
        check.due("the third is refused", x.carryOut(), 2);
        check.due("arrows", x.total(0), 1);
        check.due("words", x.total(1), 1);
        check.due("days", x.total(5), 0);
        RoadPaint y = with("a0au;a1ad;l0a1;a1ad");
        check.due("beside, no line yet", y.carryOut(), 1);
        check.due("no dash", y.total(2), 0);
        RoadPaint z = with("a0au;l0a1;a1ad");
        check.due("beside, the line is painted ahead", z.carryOut(), 3);
    }

    private static void upToANightWithoutCans() {
        check.sentence("up to the first one whose method would return an error code (night())");
        RoadPaint x = Roads.withoutCans();
        Check.write(x, "w2a1;nap;w2b1");
        check.due("without cans", x.carryOut(), 1);
        check.due("words", x.total(1), 25);
        check.due("nights", x.total(6), 1);
        RoadPaint y = Roads.withoutCans();
        y.bring(3);
        Check.write(y, "nap;npa;d");
        check.due("the first takes all cans", y.carryOut(), 1);
        check.due("cans", y.total(4), 0);
        check.due("days", y.total(5), 3);
    }

    private static void noOrderIsCarriedOut() {
        check.sentence("Returns the number of orders that are carried out (none)");
        RoadPaint x = Roads.withoutCans();
        Check.write(x, "nap;d");
        check.due("the first is not possible", x.carryOut(), 0);
        check.due("days", x.total(5), 3);
        RoadPaint y = new RoadPaint();
        y.arrow(1, 5, 0);
        Check.write(y, "a1gd;d");
        check.due("the first is refused", y.carryOut(), 0);
        check.due("arrows", y.total(0), 1);
    }

    private static void emptiesTheBuffer() {
        check.sentence("and empties the buffer");
        RoadPaint x = with("d;d");
        x.carryOut();
        check.due("all are carried out", x.clearText(), 0);
        RoadPaint y = with("a0au;a0bd;d");
        y.carryOut();
        check.due("some are carried out", y.clearText(), 0);
        RoadPaint z = Roads.withoutCans();
        Check.write(z, "nap;d");
        z.carryOut();
        check.due("none is carried out", z.clearText(), 0);
        check.due("again", z.carryOut(), RoadPaint.BAD_TEXT);
    }

    private static void oneState() {
        check.sentence("The orders do not record states; the call records one state");
        RoadPaint x = with("w0a0;a0au;l0a1;d;nap;w0b0;w0c0");
        check.due("orders", x.carryOut(), 7);
        check.due("one state", x.undo(), 0);
        check.allDue("all orders are undone", Roads.picture(x), Roads.picture(new RoadPaint()));
        RoadPaint y = new RoadPaint();
        for (int mile = 0; mile < 5; mile++) {
            y.word(1, mile, 1);
        }
        Check.write(y, "w0a0;w0b0;w0c0;w0d0;w0e0;w0f0");
        y.carryOut();
        int[] due = {5, 4, 3, 2, 1};
        for (int i = 0; i < 5; i++) {
            check.due("states", y.undo(), 4 - i);
            check.due("words", y.total(1), due[i]);
        }
        check.due("the sixth is discarded", y.undo(), RoadPaint.NOT_POSSIBLE);
    }

    private static void oneStateOfNoOrder() {
        check.sentence("the call records one state, also if no order is carried out");
        RoadPaint x = Roads.withoutCans();
        x.word(2, 3, 1);
        Check.write(x, "nap");
        check.due("no order", x.carryOut(), 0);
        check.due("the state ahead of it", x.undo(), 4);
        check.due("words", x.total(1), 25);
        check.due("the state ahead of the word", x.undo(), 3);
        check.due("words", x.total(1), 24);
        RoadPaint y = new RoadPaint();
        y.arrow(1, 5, 0);
        Check.write(y, "a1gd");
        y.carryOut();
        check.due("a refused arrow", y.undo(), 1);
    }

    private static void badTextStays() {
        check.sentence("BAD_TEXT if the buffer is not a text (then it stays)");
        RoadPaint x = with("w0a0;d;na");
        check.due("open", x.carryOut(), RoadPaint.BAD_TEXT);
        check.due("nothing is carried out", x.total(1), 0);
        check.due("nothing is recorded", x.undo(), RoadPaint.NOT_POSSIBLE);
        check.due("it stays, and goes on", x.append('p'), 10);
        check.due("a text", x.carryOut(), 3);
        RoadPaint y = with("w0a0;x");
        check.due("an error", y.carryOut(), RoadPaint.BAD_TEXT);
        check.due("it stays", y.errorPosition(), 5);
        check.due("it stays", y.clearText(), 6);
    }
}
