/** Promises 6 to 10: set, traffic, bring, pass, night. */
public final class TrafficAndCrewsTest {
    private static final Check check = new Check("TrafficAndCrewsTest");

    public static void main(String[] args) {
        promise6Set();
        promise7Traffic();
        promise8Bring();
        promise9Pass();
        promise9SlowAndStop();
        promise9Gone();
        promise10NightErrors();
        promise10NightOrder();
        promise10NightLimits();
        check.end();
    }

    private static void promise6Set() {
        RoadPaint x = new RoadPaint();
        check.due("setting 0", x.set(0, 100), 30);
        check.due("setting 0 again", x.set(0, 1), 100);
        check.due("setting 1", x.set(1, 40), 12);
        check.due("setting 1 again", x.set(1, 1), 40);
        check.due("setting 0 is", x.total(13), 1);
        check.due("setting 1 is", x.total(14), 1);
        check.due("setting 2", x.set(2, 5), RoadPaint.NO_SUCH);
        check.due("setting -1", x.set(-1, 0), RoadPaint.NO_SUCH);
        check.due("strength 0", x.set(0, 0), RoadPaint.BAD_VALUE);
        check.due("strength 101", x.set(0, 101), RoadPaint.BAD_VALUE);
        check.due("signs 0", x.set(1, 0), RoadPaint.BAD_VALUE);
        check.due("signs 41", x.set(1, 41), RoadPaint.BAD_VALUE);
        check.due("setting 0 is still", x.total(13), 1);
        check.due("setting 1 is still", x.total(14), 1);
    }

    private static void promise7Traffic() {
        RoadPaint x = new RoadPaint();
        check.due("lane 0", x.traffic(0, 0), 5);
        check.due("lane 1", x.traffic(1, 20), 5);
        check.due("lane 2", x.traffic(2, 7), 5);
        check.due("lane 2 again", x.traffic(2, 8), 7);
        check.due("lane 0 is", x.total(10), 0);
        check.due("lane 1 is", x.total(11), 20);
        check.due("lane 2 is", x.total(12), 8);
        check.due("lane 3", x.traffic(3, 21), RoadPaint.NO_SUCH);
        check.due("lane -1", x.traffic(-1, 0), RoadPaint.NO_SUCH);
        check.due("traffic 21", x.traffic(0, 21), RoadPaint.BAD_VALUE);
        check.due("traffic -1", x.traffic(0, -1), RoadPaint.BAD_VALUE);
        check.due("lane 0 is still", x.total(10), 0);
    }

    private static void promise8Bring() {
        RoadPaint x = new RoadPaint();
        check.due("one", x.bring(1), 21);
        check.due("too many by one", x.bring(79), RoadPaint.LIMIT);
        check.due("up to the limit", x.bring(78), 99);
        check.due("one too many", x.bring(1), RoadPaint.LIMIT);
        check.due("99 more", x.bring(99), RoadPaint.LIMIT);
        check.due("out of range comes first", x.bring(100), RoadPaint.BAD_VALUE);
        check.due("0", x.bring(0), RoadPaint.BAD_VALUE);
        check.due("-1", x.bring(-1), RoadPaint.BAD_VALUE);
        check.due("most", x.bring(Integer.MAX_VALUE), RoadPaint.BAD_VALUE);
        check.due("cans", x.total(4), 99);
    }

    private static void promise9Pass() {
        RoadPaint x = new RoadPaint();
        x.traffic(0, 3);
        x.traffic(1, 4);
        x.traffic(2, 9);
        x.arrow(0, 1, 0);
        x.word(1, 1, 2);
        x.word(2, 1, 3);
        x.arrow(2, 1, 2);
        x.dash(0, 1, 1);
        x.dash(1, 1, 2);
        check.due("a day", x.pass(1), 0);
        check.due("arrow of lane 0", x.cell(0, 1, 1), 97);
        check.due("BUS of lane 1", x.cell(1, 1, 3), 96);
        check.due("BIKE of lane 2", x.cell(2, 1, 3), 91);
        check.due("arrow with BIKE", x.cell(2, 1, 1), 91);
        check.due("dash of line 0: half of 7", x.line(0, 1, 1), 97);
        check.due("dash of line 1: half of 13", x.line(1, 1, 1), 94);
        check.due("days", x.total(5), 1);
        check.due("two days", x.pass(2), 0);
        check.due("days", x.total(5), 3);
        check.due("BIKE after 3 days", x.cell(2, 1, 3), 73);
        check.due("days 0", x.pass(0), RoadPaint.BAD_VALUE);
        check.due("days 31", x.pass(31), RoadPaint.BAD_VALUE);
        check.due("days -1", x.pass(-1), RoadPaint.BAD_VALUE);
        check.due("days after errors", x.total(5), 3);
        check.due("30 days", x.pass(30), 4);
        check.due("days", x.total(5), 33);
        check.due("arrow of lane 0 after 33 days", x.cell(0, 1, 1), 1);
        check.due("with a strength of 1 it is there", x.cell(0, 1, 0), 0);
        check.due("and counts", x.total(0), 1);
        check.due("and hides no other", x.whyNot(0, 2, 1), 1);
        check.due("and is repainted, as is the dash", x.night(1, 1), 2);
    }

    private static void promise9SlowAndStop() {
        RoadPaint x = new RoadPaint();
        x.traffic(0, 9);
        x.traffic(1, 9);
        x.traffic(2, 9);
        x.word(0, 0, 0);
        x.arrow(0, 0, 2);
        x.word(1, 0, 1);
        x.arrow(1, 0, 2);
        x.word(2, 0, 2);
        x.arrow(2, 0, 2);
        x.arrow(0, 9, 2);
        x.dash(0, 0, 1);
        x.pass(1);
        check.due("SLOW", x.cell(0, 0, 3), 96);
        check.due("arrow with SLOW", x.cell(0, 0, 1), 96);
        check.due("STOP", x.cell(1, 0, 3), 96);
        check.due("arrow with STOP", x.cell(1, 0, 1), 96);
        check.due("BUS", x.cell(2, 0, 3), 91);
        check.due("arrow with BUS", x.cell(2, 0, 1), 91);
        check.due("arrow without a word", x.cell(0, 9, 1), 91);
        check.due("a dash is not spared", x.line(0, 0, 1), 91);
        x.set(0, 93);
        x.pass(1);
        check.due("SLOW that could be read ahead of the loss", x.cell(0, 0, 3), 92);
        check.due("its arrow", x.cell(0, 0, 1), 92);
        x.pass(1);
        check.due("SLOW that could not be read", x.cell(0, 0, 3), 83);
        check.due("its arrow", x.cell(0, 0, 1), 83);
        x.set(0, 83);
        x.pass(1);
        check.due("SLOW that could just be read", x.cell(0, 0, 3), 79);
        check.due("STOP that could just be read", x.cell(1, 0, 3), 79);
        RoadPaint y = new RoadPaint();
        y.traffic(0, 1);
        y.word(0, 0, 1);
        y.pass(30);
        check.due("half of 1 is nothing", y.cell(0, 0, 3), 100);
    }

    private static void promise9Gone() {
        RoadPaint x = new RoadPaint();
        x.traffic(0, 20);
        x.traffic(1, 20);
        x.word(0, 3, 2);
        x.arrow(0, 3, 1);
        x.dash(0, 3, 3);
        x.word(2, 3, 2);
        check.due("four days", x.pass(4), 0);
        check.due("word at 20", x.cell(0, 3, 3), 20);
        check.due("the fifth day", x.pass(1), 3);
        check.due("no word", x.cell(0, 3, 2), RoadPaint.NONE);
        check.due("no arrow", x.cell(0, 3, 0), RoadPaint.NONE);
        check.due("dash 0", x.line(0, 3, 0), 0);
        check.due("free again", x.cell(0, 3, 5), 1);
        check.due("gone so far", x.total(8), 3);
        check.due("signs left", x.total(9), 75);
        check.due("not twice", x.pass(1), 0);
        x.traffic(2, 19);
        check.due("nothing falls below 0", x.pass(30), 1);
        check.due("sum of strengths", x.total(9), 0);
        check.due("gone so far", x.total(8), 4);
    }

    private static void promise10NightErrors() {
        RoadPaint x = new RoadPaint();
        check.due("from 16", x.night(16, 0), RoadPaint.NO_SUCH);
        check.due("from -1", x.night(-1, 0), RoadPaint.NO_SUCH);
        check.due("to 16", x.night(0, 16), RoadPaint.NO_SUCH);
        check.due("to -1", x.night(0, -1), RoadPaint.NO_SUCH);
        check.due("nothing to repaint", x.night(0, 15), 0);
        check.due("a night all the same", x.total(6), 1);
        check.due("cans", x.total(4), 20);
        x.traffic(0, 20);
        for (int mile = 0; mile < 16; mile++) {
            x.word(0, mile, 2);
            x.arrow(0, mile, 0);
        }
        x.pass(3);
        x.set(1, 40);
        check.due("as many as there are cans", x.night(15, 0), 20);
        check.due("no cans", x.total(4), 0);
        check.due("without cans", x.night(0, 0), RoadPaint.NOT_POSSIBLE);
        check.due("no such mile comes first", x.night(0, 99), RoadPaint.NO_SUCH);
        check.due("nights", x.total(6), 2);
        check.due("repainted", x.total(7), 20);
        check.due("it began at 15", x.cell(0, 15, 3), 100);
        check.due("it ended at 6", x.cell(0, 6, 1), 100);
        check.due("not at 5", x.cell(0, 5, 3), 40);
    }

    private static void promise10NightOrder() {
        // The order at a mile: the words of the lanes 0 to 2, their arrows, the lines 0 and 1.
        for (int limit = 1; limit <= 9; limit++) {
            RoadPaint x = new RoadPaint();
            for (int lane = 0; lane < 3; lane++) {
                x.traffic(lane, 15);
                x.word(lane, 7, 2);
                x.arrow(lane, 7, 2);
                x.word(lane, 8, 2);
            }
            x.dash(0, 7, 1);
            x.dash(1, 7, 2);
            x.pass(3);
            x.set(1, limit);
            check.due("limit " + limit, x.night(7, 8), limit);
            int[] strengths = {
                x.cell(0, 7, 3), x.cell(1, 7, 3), x.cell(2, 7, 3),
                x.cell(0, 7, 1), x.cell(1, 7, 1), x.cell(2, 7, 1),
                x.line(0, 7, 1), x.line(1, 7, 1), x.cell(0, 8, 3), x.cell(1, 8, 3)};
            for (int i = 0; i < strengths.length; i++) {
                check.due("limit " + limit + ", sign " + i, strengths[i], i < limit ? 100 : 55);
            }
            check.due("kept way", x.cell(2, 7, 0), 2);
            check.due("kept word", x.cell(2, 7, 2), 2);
            check.due("kept dash", x.line(1, 7, 0), 2);
        }
    }

    private static void promise10NightLimits() {
        RoadPaint x = new RoadPaint();
        x.traffic(0, 20);
        x.traffic(1, 19);
        x.word(0, 4, 2);
        x.word(0, 5, 2);
        x.word(0, 6, 2);
        x.pass(2);
        check.due("60 is left alone", x.night(4, 4), 0);
        x.traffic(0, 1);
        x.pass(1);
        check.due("59 is repainted", x.night(5, 5), 1);
        check.due("only there", x.cell(0, 4, 3), 59);
        check.due("only there", x.cell(0, 6, 3), 59);
        check.due("cans", x.total(4), 19);
        check.due("both ends, downwards", x.night(6, 4), 2);
        check.due("cans", x.total(4), 17);
        check.due("repainted", x.total(7), 3);
        check.due("nights", x.total(6), 3);
        check.due("again", x.night(6, 4), 0);
    }
}
