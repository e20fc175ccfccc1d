import java.util.List;
import java.util.function.ToIntFunction;

/** The edges of recorded states and of the saved one; promises 23 to 25, and 512 calls. */
public final class UndoEdgesTest {
    private static final int NOT_POSSIBLE = RoadPaint.NOT_POSSIBLE;
    private static final Check check = new Check("UndoEdgesTest");

    private record Undoable(String name, ToIntFunction<RoadPaint> call) {
    }

    /** One call of each method that is marked "Undoable." and works on Roads.busy(). */
    private static final List<Undoable> UNDOABLE = List.of(
            new Undoable("arrow", x -> x.arrow(2, 11, 1)),
            new Undoable("word", x -> x.word(0, 0, 3)),
            new Undoable("dash", x -> x.dash(1, 15, 0)),
            new Undoable("erase", x -> x.erase(0, 3)),
            new Undoable("set 0", x -> x.set(0, 99)),
            new Undoable("set 1", x -> x.set(1, 1)),
            new Undoable("traffic 0", x -> x.traffic(0, 20)),
            new Undoable("traffic 1", x -> x.traffic(1, 0)),
            new Undoable("traffic 2", x -> x.traffic(2, 1)),
            new Undoable("bring", x -> x.bring(7)),
            new Undoable("pass", x -> x.pass(30)),
            new Undoable("night", x -> x.night(15, 0)),
            new Undoable("restore", RoadPaint::restore),
            new Undoable("carryOut", UndoEdgesTest::orders));

    /** Calls that are answered without an error code, but make no difference that a picture shows. */
    private static final List<Undoable> WITHOUT_DIFFERENCE = List.of(
            new Undoable("dash", x -> x.dash(0, 0, 0)),
            new Undoable("erase", x -> x.erase(1, 1)),
            new Undoable("set 0", x -> x.set(0, x.total(13))),
            new Undoable("set 1", x -> x.set(1, x.total(14))),
            new Undoable("traffic", x -> x.traffic(2, x.total(12))),
            new Undoable("restore", UndoEdgesTest::saveAndRestore));

    /** Calls of the methods that are not marked. */
    private static final List<Undoable> NOT_UNDOABLE = List.of(
            new Undoable("cell", x -> x.cell(0, 0, 0)),
            new Undoable("line", x -> x.line(0, 0, 0)),
            new Undoable("mayChange", x -> x.mayChange(0, 1, 0, 0)),
            new Undoable("total", x -> x.total(9)),
            new Undoable("whyNot", x -> x.whyNot(0, 0, 0)),
            new Undoable("readableFor", x -> x.readableFor(0, 0)),
            new Undoable("bestNight", RoadPaint::bestNight),
            new Undoable("fewestChanges", x -> x.fewestChanges(0, 0)),
            new Undoable("append", x -> x.append('d')),
            new Undoable("errorPosition", RoadPaint::errorPosition),
            new Undoable("clearText", RoadPaint::clearText),
            new Undoable("save", RoadPaint::save));

    public static void main(String[] args) {
        eachIsRecorded();
        eachIsTheSixth();
        recordedWithoutDifference();
        notRecorded();
        fiveStates();
        sixthState();
        manyStates();
        statesAfterUndo();
        remainingStates();
        bufferIsNoState();
        savedIsNoState();
        recordedIsNoState();
        savedAnew();
        daysOfSave();
        remainsSaved();
        savedEverything();
        daysOfRestore();
        restoreIsUndone();
        objectsOfTheirOwn();
        lastOf512Calls();
        check.end();
    }

    private static int orders(RoadPaint x) {
        x.clearText();
        Check.write(x, "w2c1;l0d3;d;nap;a0hu");
        return x.carryOut();
    }

    private static int saveAndRestore(RoadPaint x) {
        x.save();
        return x.restore();
    }

    private static void eachIsRecorded() {
        check.sentence("record the state that was current ahead of the call, if they return no error code");
        for (Undoable undoable : UNDOABLE) {
            RoadPaint x = Roads.busy();
            int answer = undoable.call.applyAsInt(x);
            check.isTrue(undoable.name + " answers no error code", answer >= 0);
            check.due(undoable.name + " is recorded", x.undo(), 4);
            check.allDue(undoable.name + " is undone", Roads.picture(x), Roads.picture(Roads.busy()));
        }
    }

    private static void eachIsTheSixth() {
        check.sentence("when a sixth one is recorded, the oldest one is discarded (by each method)");
        for (Undoable undoable : UNDOABLE) {
            RoadPaint x = Roads.busy();
            undoable.call.applyAsInt(x);
            x.undo();
            RoadPaint y = Roads.busy();
            for (int left = 3; left >= 0; left--) {
                check.due(undoable.name + ", states", x.undo(), left);
                y.undo();
                check.allDue(undoable.name + ", an older state", Roads.totals(x), Roads.totals(y));
            }
            check.due(undoable.name + ", no sixth state", x.undo(), NOT_POSSIBLE);
        }
    }

    private static void recordedWithoutDifference() {
        check.sentence("(also if the call makes no difference)");
        for (Undoable undoable : WITHOUT_DIFFERENCE) {
            RoadPaint x = new RoadPaint();
            int answer = undoable.call.applyAsInt(x);
            check.isTrue(undoable.name + " answers no error code", answer >= 0);
            check.allDue(undoable.name + " makes no difference", Roads.totals(x), Roads.totals(new RoadPaint()));
            check.due(undoable.name + " is recorded", x.undo(), 0);
            check.due(undoable.name + ", just once", x.undo(), NOT_POSSIBLE);
        }
        RoadPaint y = new RoadPaint();
        y.word(0, 0, 0);
        y.word(0, 0, 0);
        y.arrow(0, 0, 0);
        y.arrow(0, 0, 0);
        check.due("the same signs again", y.undo(), 3);
        y.night(5, 5);
        check.due("a night without signs", y.undo(), 3);
    }

    private static void notRecorded() {
        check.sentence("The methods that are marked \"Undoable.\" (and no others)");
        for (Undoable undoable : NOT_UNDOABLE) {
            RoadPaint x = new RoadPaint();
            undoable.call.applyAsInt(x);
            check.due(undoable.name + " is not recorded", x.undo(), NOT_POSSIBLE);
            RoadPaint y = Roads.busy();
            undoable.call.applyAsInt(y);
            RoadPaint z = Roads.busy();
            for (int left = 4; left >= 0; left--) {
                check.due(undoable.name + ", states", y.undo(), left);
                z.undo();
                check.allDue(undoable.name + ", the same states", Roads.totals(y), Roads.totals(z));
            }
        }
    }

    /** A road on which words were painted, so many that the last one is the word number count. */
    private static RoadPaint withWords(int count) {
        RoadPaint x = new RoadPaint();
        for (int i = 0; i < count; i++) {
            x.word(i % 3, i / 3, 0);
        }
        return x;
    }

    private static void fiveStates() {
        check.sentence("At most 5 states are kept");
        for (int calls = 0; calls <= 5; calls++) {
            RoadPaint x = withWords(calls);
            for (int left = calls - 1; left >= 0; left--) {
                check.due(calls + " calls, states", x.undo(), left);
                check.due(calls + " calls, words", x.total(1), left);
            }
            check.due(calls + " calls, no more", x.undo(), NOT_POSSIBLE);
            check.due(calls + " calls, words", x.total(1), 0);
        }
    }

    private static void sixthState() {
        check.sentence("when a sixth one is recorded, the oldest one is discarded");
        RoadPaint x = withWords(6);
        for (int left = 4; left >= 0; left--) {
            check.due("states", x.undo(), left);
            check.due("words", x.total(1), left + 1);
        }
        check.due("the oldest one is discarded", x.undo(), NOT_POSSIBLE);
        check.due("words", x.total(1), 1);
    }

    private static void manyStates() {
        check.sentence("the oldest one is discarded (again and again)");
        for (int calls = 7; calls <= 48; calls++) {
            RoadPaint x = withWords(calls);
            for (int left = 4; left >= 0; left--) {
                check.due(calls + " calls, states", x.undo(), left);
                check.due(calls + " calls, words", x.total(1), calls - 5 + left);
            }
            check.due(calls + " calls, no more", x.undo(), NOT_POSSIBLE);
        }
    }

    private static void statesAfterUndo() {
        check.sentence("Makes the latest recorded state current and discards it from the recorded states");
        for (int undone = 1; undone <= 5; undone++) {
            RoadPaint x = withWords(9);
            for (int i = 0; i < undone; i++) {
                x.undo();
            }
            for (int i = 0; i < undone; i++) {
                x.word(2, 10 + i, 0);
            }
            for (int left = 4; left >= 0; left--) {
                check.due(undone + " undone, states", x.undo(), left);
                check.due(undone + " undone, words", x.total(1), 4 + left);
                int mine = 9 - undone;
                int firstNew = x.cell(2, 10, 2);
                check.due(undone + " undone, which words", firstNew, 4 + left > mine ? 0 : RoadPaint.NONE);
            }
            check.due(undone + " undone, no more", x.undo(), NOT_POSSIBLE);
        }
        RoadPaint y = withWords(7);
        y.undo();
        y.undo();
        y.word(2, 10, 0);
        check.due("states", y.undo(), 3);
        y.bring(1);
        y.bring(1);
        y.bring(1);
        check.due("a sixth one after undo", y.undo(), 4);
        check.due("cans", y.total(4), 22);
    }

    private static void remainingStates() {
        check.sentence("Returns the number of recorded states that remain");
        RoadPaint x = withWords(3);
        check.due("of three", x.undo(), 2);
        check.due("of two", x.undo(), 1);
        check.due("of one", x.undo(), 0);
        check.due("of none", x.undo(), NOT_POSSIBLE);
        x.word(0, 0, 0);
        check.due("of one", x.undo(), 0);
    }

    private static void bufferIsNoState() {
        check.sentence("The state is everything except the buffer");
        RoadPaint x = new RoadPaint();
        Check.write(x, "d;");
        x.word(0, 0, 0);
        Check.write(x, "na");
        x.undo();
        check.due("undo leaves the buffer", x.append('p'), 5);
        check.due("it is a text", x.errorPosition(), RoadPaint.NONE);
        x.save();
        x.clearText();
        Check.write(x, "d");
        x.restore();
        check.due("restore leaves the buffer", x.clearText(), 1);
        Check.write(x, "d;d");
        x.carryOut();
        x.undo();
        check.due("undo does not bring a text back", x.clearText(), 0);
    }

    private static void savedIsNoState() {
        check.sentence("except the buffer, the saved state of save()");
        RoadPaint x = new RoadPaint();
        x.word(0, 0, 0);
        x.pass(3);
        x.save();
        x.undo();
        x.undo();
        check.due("saved by a state that is undone", x.restore(), 3);
        check.due("words", x.total(1), 1);
        RoadPaint y = new RoadPaint();
        y.pass(1);
        y.save();
        y.pass(2);
        y.save();
        y.undo();
        check.due("undo does not bring the older save back", y.restore(), 3);
    }

    private static void recordedIsNoState() {
        check.sentence("and the recorded states");
        RoadPaint x = withWords(2);
        x.save();
        x.word(2, 9, 0);
        x.restore();
        check.due("restore leaves them", x.undo(), 3);
        check.due("words", x.total(1), 3);
        check.due("and", x.undo(), 2);
        check.due("words", x.total(1), 2);
        check.due("and", x.undo(), 1);
        check.due("and", x.undo(), 0);
        check.due("words", x.total(1), 0);
        RoadPaint y = withWords(2);
        y.undo();
        y.save();
        y.word(2, 9, 0);
        check.due("save leaves them", y.undo(), 1);
        check.due("and", y.undo(), 0);
    }

    private static void savedAnew() {
        check.sentence("Saves the state and overwrites the state that was saved before");
        RoadPaint x = new RoadPaint();
        x.word(0, 0, 0);
        x.save();
        x.erase(0, 0);
        x.word(1, 1, 1);
        x.word(1, 2, 1);
        x.save();
        x.word(1, 3, 1);
        x.restore();
        check.due("words", x.total(1), 2);
        check.due("not of the older one", x.cell(0, 0, 2), RoadPaint.NONE);
        check.due("of the later one", x.cell(1, 1, 2), 1);
    }

    private static void daysOfSave() {
        check.sentence("save: Returns the number of days so far");
        RoadPaint x = new RoadPaint();
        check.due("none", x.save(), 0);
        x.pass(30);
        check.due("30", x.save(), 30);
        x.pass(1);
        check.due("31", x.save(), 31);
        x.undo();
        check.due("undone", x.save(), 30);
    }

    private static void remainsSaved() {
        check.sentence("Makes the saved state current; it remains saved");
        RoadPaint x = Roads.busy();
        x.restore();
        int[] saved = Roads.totals(x);
        for (int i = 0; i < 5; i++) {
            x.erase(0, 3);
            x.erase(1, 9);
            x.dash(0, 3, 0);
            x.pass(1 + i);
            x.set(0, 60 + i);
            check.due("restored again", x.restore(), 3);
            check.allDue("it is as it was", Roads.totals(x), saved);
        }
    }

    private static void savedEverything() {
        check.sentence("Makes the saved state current (all of it)");
        for (Undoable undoable : UNDOABLE) {
            RoadPaint x = Roads.busy();
            x.save();
            undoable.call.applyAsInt(x);
            check.due(undoable.name + ", days", x.restore(), 4);
            check.allDue(undoable.name + " is taken back", Roads.picture(x), Roads.picture(Roads.busy()));
        }
    }

    private static void daysOfRestore() {
        check.sentence("restore: Returns the number of days so far then");
        RoadPaint x = new RoadPaint();
        x.save();
        x.pass(7);
        check.due("the days of the saved state", x.restore(), 0);
        check.due("total", x.total(5), 0);
        x.pass(2);
        x.save();
        x.undo();
        check.due("more days than now", x.restore(), 2);
    }

    private static void restoreIsUndone() {
        check.sentence("restore: Undoable");
        RoadPaint x = Roads.busy();
        x.restore();
        check.due("recorded", x.undo(), 4);
        check.allDue("undone", Roads.picture(x), Roads.picture(Roads.busy()));
    }

    private static void objectsOfTheirOwn() {
        check.sentence("Creates a road without signs (beside another one)");
        RoadPaint x = Roads.busy();
        RoadPaint y = new RoadPaint();
        check.due("no state", y.undo(), NOT_POSSIBLE);
        check.due("nothing saved", y.restore(), NOT_POSSIBLE);
        check.due("no text", y.clearText(), 0);
        y.traffic(0, 1);
        y.set(0, 1);
        y.word(0, 0, 3);
        y.save();
        Check.write(y, "d;d;d");
        check.allDue("the other one", Roads.picture(x), Roads.picture(Roads.busy()));
        check.due("its text", x.clearText(), 5);
    }

    private static void lastOf512Calls() {
        check.sentence("An object is used for at most 512 calls");
        RoadPaint x = new RoadPaint();
        for (int i = 0; i < 511; i++) {
            x.traffic(0, i % 21);
        }
        check.due("the last call", x.undo(), 4);
        RoadPaint y = new RoadPaint();
        for (int i = 0; i < 511; i++) {
            y.pass(30);
        }
        check.due("the last call", y.total(5), 511 * 30);
        RoadPaint z = new RoadPaint();
        for (int i = 0; i < 511; i++) {
            z.append(33);
        }
        check.due("the last call", z.clearText(), 70);
    }
}
