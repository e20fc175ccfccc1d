/** Promises 15 to 18: whyNot, readableFor, bestNight, fewestChanges. */
public final class PredictionsTest {
    private static final Check check = new Check("PredictionsTest");

    public static void main(String[] args) {
        promise15WhyNot();
        promise16ReadableFor();
        promise17BestNight();
        promise17Ties();
        promise17Limits();
        promise18FewestChanges();
        promise18Down();
        promise18SeveralAtOneMile();
        promise18Errors();
        check.end();
    }

    private static void promise15WhyNot() {
        RoadPaint x = new RoadPaint();
        x.arrow(1, 7, 0);
        check.due("it would be set", x.whyNot(1, 8, 0), 0);
        check.due("head on", x.whyNot(1, 11, 1), 1);
        check.due("head on with both ways", x.whyNot(1, 8, 2), 1);
        check.due("too far away", x.whyNot(1, 12, 1), 0);
        check.due("beside", x.whyNot(0, 7, 1), 2);
        check.due("beside, both ways", x.whyNot(2, 7, 2), 0);
        check.due("in its own place", x.whyNot(1, 7, 1), 0);
        RoadPaint y = new RoadPaint();
        y.arrow(0, 15, 1);
        y.arrow(2, 0, 0);
        check.due("head on with the last mile", y.whyNot(0, 11, 0), 1);
        check.due("head on with the first mile", y.whyNot(2, 4, 1), 1);
        check.due("it changes nothing", x.total(0), 1);
        check.due("it records nothing", x.undo(), 0);
        check.due("lane 3", x.whyNot(3, 0, 3), RoadPaint.NO_SUCH);
        check.due("lane -1", x.whyNot(-1, 0, 0), RoadPaint.NO_SUCH);
        check.due("mile 16", x.whyNot(0, 16, 0), RoadPaint.NO_SUCH);
        check.due("mile -1", x.whyNot(0, -1, 0), RoadPaint.NO_SUCH);
        check.due("way 3", x.whyNot(0, 0, 3), RoadPaint.BAD_VALUE);
        check.due("way -1", x.whyNot(0, 0, -1), RoadPaint.BAD_VALUE);
    }

    private static void promise16ReadableFor() {
        RoadPaint x = new RoadPaint();
        check.due("no word", x.readableFor(0, 0), RoadPaint.NONE);
        x.word(0, 0, 2);
        check.due("BUS, 70 to lose at 5", x.readableFor(0, 0), 15);
        x.word(2, 15, 2);
        check.due("the last cell", x.readableFor(2, 15), 15);
        x.word(0, 0, 0);
        check.due("SLOW, 70 to lose at 2", x.readableFor(0, 0), 36);
        x.traffic(0, 20);
        x.word(0, 0, 3);
        check.due("BIKE, 70 to lose at 20", x.readableFor(0, 0), 4);
        x.pass(3);
        check.due("40 is 1 day", x.readableFor(0, 0), 1);
        x.pass(1);
        check.due("20 can not be read", x.readableFor(0, 0), 0);
        x.set(0, 20);
        check.due("20 of 20 can be read", x.readableFor(0, 0), 1);
        x.set(0, 1);
        x.traffic(0, 1);
        x.word(0, 0, 3);
        check.due("the longest", x.readableFor(0, 0), 100);
        x.word(0, 0, 1);
        check.due("STOP that loses nothing", x.readableFor(0, 0), RoadPaint.NONE);
        x.traffic(0, 0);
        x.word(0, 0, 3);
        check.due("BIKE without traffic", x.readableFor(0, 0), RoadPaint.NONE);
        x.set(0, 100);
        x.traffic(0, 2);
        x.pass(1);
        check.due("not now, though it stays", x.readableFor(0, 0), 0);
        check.due("lane 3", x.readableFor(3, 0), RoadPaint.NO_SUCH);
        check.due("lane -1", x.readableFor(-1, 0), RoadPaint.NO_SUCH);
        check.due("mile 16", x.readableFor(0, 16), RoadPaint.NO_SUCH);
        check.due("mile -1", x.readableFor(0, -1), RoadPaint.NO_SUCH);
        check.due("it lets no day pass", x.total(5), 5);
    }

    /** A road on which words at these miles of the lane 2 are faded. */
    private static RoadPaint faded(int... miles) {
        RoadPaint x = new RoadPaint();
        x.traffic(2, 20);
        for (int mile : miles) {
            x.word(2, mile, 2);
        }
        x.pass(3);
        return x;
    }

    private static void promise17BestNight() {
        check.due("none to repaint", new RoadPaint().bestNight(), RoadPaint.NONE);
        check.due("one", faded(7).bestNight(), 7 * 16 + 7);
        check.due("one at the mile 0", faded(0).bestNight(), 0);
        check.due("one at the mile 15", faded(15).bestNight(), 15 * 16 + 15);
        check.due("several", faded(3, 9, 5).bestNight(), 3 * 16 + 9);
        check.due("the whole road", faded(0, 15).bestNight(), 15);
        RoadPaint x = faded(4);
        x.night(4, 4);
        check.due("repainted", x.bestNight(), RoadPaint.NONE);
        RoadPaint y = new RoadPaint();
        y.traffic(0, 20);
        y.word(0, 5, 2);
        y.pass(2);
        check.due("60 is left alone", y.bestNight(), RoadPaint.NONE);
        RoadPaint z = new RoadPaint();
        z.traffic(0, 20);
        z.traffic(1, 20);
        z.arrow(0, 3, 0);
        z.dash(0, 9, 1);
        z.pass(3);
        check.due("arrows and dashes count", z.bestNight(), 3 * 16 + 9);
        check.due("it is no night", z.total(6), 0);
        check.due("it takes no cans", z.total(4), 20);
    }

    private static void promise17Ties() {
        RoadPaint x = faded(2, 6, 9, 13);
        x.set(1, 2);
        check.due("the fewest miles", x.bestNight(), 6 * 16 + 9);
        x.word(2, 9, 0);
        check.due("the lowest begin", x.bestNight(), 2 * 16 + 6);
        RoadPaint y = faded(2, 4, 6, 8);
        y.set(1, 2);
        check.due("the lowest of equals", y.bestNight(), 2 * 16 + 4);
        y.set(1, 1);
        check.due("a mile", y.bestNight(), 2 * 16 + 2);
    }

    private static void promise17Limits() {
        RoadPaint x = faded(0, 1, 2, 3, 4, 5, 6, 7, 8, 9, 10, 11, 12, 13, 14, 15);
        check.due("as many as the setting tells", x.bestNight(), 11);
        x.set(1, 40);
        check.due("all of them", x.bestNight(), 15);
        check.due("they are", x.night(0, 15), 16);
        check.due("cans", x.total(4), 4);
        x.pass(3);
        check.due("as many as there are cans", x.bestNight(), 3);
        check.due("they are", x.night(0, 3), 4);
        check.due("no cans", x.bestNight(), RoadPaint.NOT_POSSIBLE);
    }

    private static void promise18FewestChanges() {
        RoadPaint x = new RoadPaint();
        for (int lane = 0; lane < 3; lane++) {
            check.due("an empty road", x.fewestChanges(0, lane), 0);
        }
        x.arrow(0, 0, 1);
        check.due("not free at the first mile", x.fewestChanges(0, 0), RoadPaint.NONE);
        check.due("the last mile for down", x.fewestChanges(1, 0), 0);
        x.erase(0, 0);
        x.arrow(0, 15, 1);
        check.due("not free at the last mile", x.fewestChanges(0, 0), 1);
        x.arrow(1, 3, 1);
        check.due("past one in the middle", x.fewestChanges(0, 1), 1);
        check.due("it changes nothing", x.total(0), 2);
        x.dash(0, 4, 1);
        x.dash(1, 4, 1);
        for (int mile = 5; mile < 16; mile++) {
            x.dash(0, mile, 1);
        }
        check.due("over the lane 1 to the lane 2, ahead of the mile 3", x.fewestChanges(0, 0), 2);
        for (int mile = 0; mile < 3; mile++) {
            x.dash(1, mile, 1);
        }
        check.due("no change to the lane 1 is left", x.fewestChanges(0, 0), RoadPaint.NONE);
        x.dash(0, 14, 3);
        check.due("lower to higher over 3", x.fewestChanges(0, 0), 1);
        x.erase(0, 15);
        x.arrow(1, 15, 1);
        for (int mile = 0; mile < 16; mile++) {
            x.dash(1, mile, 1);
        }
        check.due("not back over 3", x.fewestChanges(0, 1), 1);
        for (int mile = 0; mile < 3; mile++) {
            x.dash(0, mile, 3);
        }
        check.due("nowhere back", x.fewestChanges(0, 1), RoadPaint.NONE);
        check.due("lane 2 is its own", x.fewestChanges(0, 2), 0);
    }

    private static void promise18Down() {
        RoadPaint x = new RoadPaint();
        x.arrow(2, 8, 0);
        check.due("down past an arrow up", x.fewestChanges(1, 2), 1);
        check.due("up along it", x.fewestChanges(0, 2), 0);
        for (int mile = 9; mile < 16; mile++) {
            x.dash(1, mile, 1);
        }
        check.due("changes only after it", x.fewestChanges(1, 2), RoadPaint.NONE);
        x.dash(1, 15, 2);
        check.due("a change at the first mile of down", x.fewestChanges(1, 2), 1);
        RoadPaint y = new RoadPaint();
        y.arrow(2, 15, 0);
        check.due("the first mile of down", y.fewestChanges(1, 2), RoadPaint.NONE);
        check.due("the last mile of up", y.fewestChanges(0, 2), 0);
    }

    private static void promise18SeveralAtOneMile() {
        RoadPaint x = new RoadPaint();
        x.arrow(0, 6, 1);
        x.arrow(1, 6, 1);
        for (int mile = 0; mile < 16; mile++) {
            x.dash(0, mile, mile == 5 ? 2 : 1);
            x.dash(1, mile, mile == 5 ? 0 : 1);
        }
        check.due("two changes at the mile 5", x.fewestChanges(0, 0), 2);
        check.due("one change", x.fewestChanges(0, 1), 1);
        check.due("none", x.fewestChanges(0, 2), 0);
        x.arrow(1, 5, 1);
        check.due("the lane between is not free", x.fewestChanges(0, 0), RoadPaint.NONE);
        RoadPaint y = new RoadPaint();
        y.arrow(2, 10, 0);
        y.arrow(1, 10, 0);
        for (int mile = 0; mile < 16; mile++) {
            y.dash(0, mile, mile == 11 ? 2 : 1);
            y.dash(1, mile, mile == 11 ? 0 : 1);
        }
        check.due("two changes downwards", y.fewestChanges(1, 2), 2);
        RoadPaint z = new RoadPaint();
        z.arrow(0, 4, 1);
        z.arrow(1, 14, 1);
        z.arrow(2, 14, 1);
        check.due("there and back", z.fewestChanges(0, 0), 2);
    }

    private static void promise18Errors() {
        RoadPaint x = new RoadPaint();
        check.due("lane 3", x.fewestChanges(2, 3), RoadPaint.NO_SUCH);
        check.due("lane -1", x.fewestChanges(0, -1), RoadPaint.NO_SUCH);
        check.due("way 2", x.fewestChanges(2, 0), RoadPaint.BAD_VALUE);
        check.due("way -1", x.fewestChanges(-1, 0), RoadPaint.BAD_VALUE);
    }
}
