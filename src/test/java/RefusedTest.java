import java.util.function.Supplier;
import java.util.function.ToIntFunction;

/**
 * "A call that returns an error code changes nothing": NOT_POSSIBLE, LIMIT and BAD_TEXT, each on two
 * roads that are alike (NO_SUCH and BAD_VALUE are tested likewise in ArgumentsTest); and the order
 * of the codes, NONE among them.
 */
public final class RefusedTest {
    private static final Check check = new Check("RefusedTest");

    public static void main(String[] args) {
        refusedArrow();
        tooManyCans();
        nightWithoutCans();
        bestNightWithoutCans();
        fullBuffer();
        noText();
        nothingToUndo();
        nothingSaved();
        badValueAheadOfLimit();
        noSuchAheadOfNotPossible();
        notPossibleAheadOfNone();
        errorsAheadOfNone();
        noneChangesNothing();
        check.end();
    }

    private static void refused(Supplier<RoadPaint> roads, String name, ToIntFunction<RoadPaint> call, int due) {
        RoadPaint x = roads.get();
        check.due(name, call.applyAsInt(x), due);
        check.allDue(name + ", then the road", Roads.picture(x), Roads.picture(roads.get()));
        RoadPaint y = roads.get();
        call.applyAsInt(y);
        check.allDue(name + ", then what is kept", Roads.behindThePicture(y), Roads.behindThePicture(roads.get()));
    }

    private static RoadPaint withTwoArrowsUp() {
        RoadPaint x = Roads.busy();
        x.arrow(0, 4, 0);
        return x;
    }

    private static void refusedArrow() {
        check.sentence("arrow: NOT_POSSIBLE if it is refused");
        refused(Roads::busy, "head on", x -> x.arrow(0, 4, 1), RoadPaint.NOT_POSSIBLE);
        refused(RefusedTest::withTwoArrowsUp, "in place of another", x -> x.arrow(0, 4, 2), RoadPaint.NOT_POSSIBLE);
        refused(Roads::busy, "beside", x -> x.arrow(1, 0, 0), RoadPaint.NOT_POSSIBLE);
    }

    private static RoadPaint with98Cans() {
        RoadPaint x = Roads.busy();
        x.bring(98 - x.total(4));
        return x;
    }

    private static void tooManyCans() {
        check.sentence("bring: LIMIT if there would be more than 99");
        check.due("cans", with98Cans().total(4), 98);
        refused(RefusedTest::with98Cans, "100", x -> x.bring(2), RoadPaint.LIMIT);
        refused(RefusedTest::with98Cans, "197", x -> x.bring(99), RoadPaint.LIMIT);
        check.due("99", with98Cans().bring(1), 99);
    }

    private static void nightWithoutCans() {
        check.sentence("night: NOT_POSSIBLE if there are no cans");
        check.due("cans", Roads.withoutCans().total(4), 0);
        refused(Roads::withoutCans, "no cans", x -> x.night(0, 15), RoadPaint.NOT_POSSIBLE);
        refused(Roads::withoutCans, "no cans, no signs", x -> x.night(15, 15), RoadPaint.NOT_POSSIBLE);
        RoadPaint x = Roads.withoutCans();
        x.bring(1);
        check.due("one can", x.night(0, 15), 1);
    }

    private static void bestNightWithoutCans() {
        check.sentence("bestNight: NOT_POSSIBLE if there are no cans");
        refused(Roads::withoutCans, "no cans", RoadPaint::bestNight, RoadPaint.NOT_POSSIBLE);
        RoadPaint x = Roads.withoutCans();
        x.bring(1);
        check.due("one can", x.bestNight(), 16 * 10 + 10);
    }

    private static RoadPaint withFullBuffer() {
        RoadPaint x = Roads.busy();
        x.clearText();
        Check.write(x, "d;".repeat(34) + "na");
        return x;
    }

    private static void fullBuffer() {
        check.sentence("append: LIMIT if the buffer contains 70 characters");
        refused(RefusedTest::withFullBuffer, "the 71st", x -> x.append('d'), RoadPaint.LIMIT);
        RoadPaint x = withFullBuffer();
        x.append('b');
        check.due("it holds", x.clearText(), 70);
        Check.write(x, "d".repeat(69));
        check.due("the 70th", x.append('d'), 70);
    }

    private static RoadPaint withText(String text) {
        RoadPaint x = Roads.busy();
        x.clearText();
        Check.write(x, text);
        return x;
    }

    private static void noText() {
        check.sentence("carryOut: BAD_TEXT if the buffer is not a text (then it stays)");
        for (String text : new String[] {"", ";", "d;", "w0a0;d;", "w0a0;d;na", "d;d;x", "w0a0;;d", "dd", "D", "a0a"}) {
            refused(() -> withText(text), "\"" + text + "\"", RoadPaint::carryOut, RoadPaint.BAD_TEXT);
            RoadPaint x = withText(text);
            x.carryOut();
            check.due("\"" + text + "\" stays", x.clearText(), text.length());
        }
        RoadPaint x = withText("w0h0;n");
        x.carryOut();
        Check.write(x, "ab;d");
        check.due("what stays can be made a text", x.carryOut(), 3);
    }

    private static void nothingToUndo() {
        check.sentence("undo: NOT_POSSIBLE if there is none");
        refused(RoadPaint::new, "a new object", RoadPaint::undo, RoadPaint.NOT_POSSIBLE);
        refused(() -> {
            RoadPaint x = Roads.busy();
            for (int i = 0; i < 5; i++) {
                x.undo();
            }
            return x;
        }, "all are undone", RoadPaint::undo, RoadPaint.NOT_POSSIBLE);
    }

    private static RoadPaint neverSaved() {
        RoadPaint x = new RoadPaint();
        x.word(0, 0, 1);
        x.dash(1, 5, 2);
        x.pass(2);
        Check.write(x, "d;");
        return x;
    }

    private static void nothingSaved() {
        check.sentence("restore: NOT_POSSIBLE if no state was saved");
        refused(RoadPaint::new, "a new object", RoadPaint::restore, RoadPaint.NOT_POSSIBLE);
        refused(RefusedTest::neverSaved, "nothing was saved", RoadPaint::restore, RoadPaint.NOT_POSSIBLE);
    }

    private static void badValueAheadOfLimit() {
        check.sentence("bring, append: BAD_VALUE is checked ahead of LIMIT");
        refused(RefusedTest::with98Cans, "0 cans", x -> x.bring(0), RoadPaint.BAD_VALUE);
        refused(RefusedTest::with98Cans, "100 cans", x -> x.bring(100), RoadPaint.BAD_VALUE);
        refused(RefusedTest::with98Cans, "most", x -> x.bring(Integer.MAX_VALUE), RoadPaint.BAD_VALUE);
        refused(RefusedTest::withFullBuffer, "32", x -> x.append(32), RoadPaint.BAD_VALUE);
        refused(RefusedTest::withFullBuffer, "127", x -> x.append(127), RoadPaint.BAD_VALUE);
    }

    private static void noSuchAheadOfNotPossible() {
        check.sentence("night: NO_SUCH is checked ahead of NOT_POSSIBLE");
        refused(Roads::withoutCans, "from -1", x -> x.night(-1, 0), RoadPaint.NO_SUCH);
        refused(Roads::withoutCans, "from 16", x -> x.night(16, 0), RoadPaint.NO_SUCH);
        refused(Roads::withoutCans, "to -1", x -> x.night(0, -1), RoadPaint.NO_SUCH);
        refused(Roads::withoutCans, "to 16", x -> x.night(0, 16), RoadPaint.NO_SUCH);
    }

    private static void notPossibleAheadOfNone() {
        check.sentence("bestNight: a method returns NONE only if no error code applies");
        RoadPaint x = Roads.withoutCans();
        for (int mile = 10; mile < 12; mile++) {
            x.erase(0, mile);
            x.erase(1, mile);
        }
        check.due("neither cans nor signs to repaint", x.bestNight(), RoadPaint.NOT_POSSIBLE);
        for (int mile = 0; mile < 10; mile++) {
            x.erase(0, mile);
            x.erase(1, mile);
        }
        check.due("no signs at all", x.total(9), 0);
        check.due("nor cans", x.bestNight(), RoadPaint.NOT_POSSIBLE);
        x.bring(1);
        check.due("a can, no signs", x.bestNight(), RoadPaint.NONE);
    }

    private static void errorsAheadOfNone() {
        check.sentence("a method returns NONE only if no error code applies");
        RoadPaint x = new RoadPaint();
        check.due("cell: no arrow, no lane", x.cell(3, 0, 0), RoadPaint.NO_SUCH);
        check.due("cell: no word, no mile", x.cell(0, 16, 2), RoadPaint.NO_SUCH);
        check.due("readableFor: no word, no lane", x.readableFor(3, 0), RoadPaint.NO_SUCH);
        check.due("readableFor: no word, no mile", x.readableFor(0, -1), RoadPaint.NO_SUCH);
        for (int lane = 0; lane < 3; lane++) {
            x.arrow(lane, 0, 1);
        }
        check.due("fewestChanges: no drive", x.fewestChanges(0, 0), RoadPaint.NONE);
        check.due("fewestChanges: no lane", x.fewestChanges(0, 3), RoadPaint.NO_SUCH);
        check.due("fewestChanges: no way", x.fewestChanges(2, 0), RoadPaint.BAD_VALUE);
    }

    private static void noneChangesNothing() {
        check.sentence("---- predictions; they change nothing");
        refused(Roads::busy, "no word", x -> x.readableFor(2, 2), RoadPaint.NONE);
        refused(Roads::busy, "a word", x -> x.readableFor(0, 0), 15);
        refused(Roads::busy, "best night", RoadPaint::bestNight, 16 * 3 + 9);
        refused(Roads::busy, "changes up", x -> x.fewestChanges(0, 1), 0);
        refused(Roads::busy, "changes down", x -> x.fewestChanges(1, 0), 2);
        refused(Roads::busy, "why not", x -> x.whyNot(0, 4, 1), 1);
        refused(Roads::busy, "why not beside", x -> x.whyNot(1, 0, 0), 2);
        refused(Roads::busy, "no error", x -> x.whyNot(2, 1, 1), 0);
        refused(Roads::busy, "a driver", x -> x.mayChange(0, 1, 3, 0), 0);
        refused(Roads::busy, "an open text", RoadPaint::errorPosition, 5);
    }
}
