/** Promises 23 to 25: undo, save, restore; and which calls are undoable. */
public final class UndoTest {
    private static final Check check = new Check("UndoTest");

    public static void main(String[] args) {
        promise23FiveStates();
        promise23WhatIsUndone();
        promise23NotAfterErrors();
        promise23NoDifference();
        promise24Save();
        promise25Restore();
        check.end();
    }

    private static void promise23FiveStates() {
        RoadPaint x = new RoadPaint();
        for (int mile = 0; mile < 7; mile++) {
            x.word(0, mile, 0);
        }
        for (int left = 4; left >= 0; left--) {
            check.due("states that remain", x.undo(), left);
            check.due("words", x.total(1), left + 2);
        }
        check.due("none is left", x.undo(), RoadPaint.NOT_POSSIBLE);
        check.due("words", x.total(1), 2);
        x.word(0, 9, 0);
        x.word(0, 10, 0);
        check.due("recorded anew", x.undo(), 1);
        check.due("words", x.total(1), 3);
        x.word(0, 11, 0);
        check.due("after an undo", x.undo(), 1);
        check.due("after an undo", x.undo(), 0);
        check.due("words", x.total(1), 2);
    }

    private static void promise23WhatIsUndone() {
        for (int call = 0; call < 11; call++) {
            RoadPaint x = new RoadPaint();
            x.traffic(0, 20);
            x.word(0, 0, 2);
            x.arrow(0, 0, 0);
            x.dash(0, 0, 1);
            x.pass(4);
            int[] before = totals(x);
            Check.write(x, "w1a0;l1a2;d;nap");
            int answer = change(x, call);
            check.isTrue("call " + call + " is no error", answer >= 0);
            x.clearText();
            check.isTrue("call " + call + " changes", !same(before, totals(x)) || call == 9);
            x.undo();
            check.isTrue("call " + call + " is undone", same(before, totals(x)));
            check.due("the way is as before", x.cell(0, 0, 0), 0);
            check.due("the word is as before", x.cell(0, 0, 2), 2);
            check.due("the dash is as before", x.line(0, 0, 0), 1);
        }
        RoadPaint y = new RoadPaint();
        y.append(100);
        y.word(2, 2, 2);
        y.append(100);
        y.undo();
        check.due("the buffer is not undone", y.clearText(), 2);
    }

    private static int change(RoadPaint x, int call) {
        switch (call) {
            case 0: return x.arrow(0, 0, 2);
            case 1: return x.word(0, 0, 3);
            case 2: return x.dash(0, 0, 0);
            case 3: return x.erase(0, 0);
            case 4: return x.set(0, 77);
            case 5: return x.traffic(1, 9);
            case 6: return x.bring(9);
            case 7: return x.pass(2);
            case 8: return x.night(0, 3);
            case 9: x.save(); return x.restore();
            default: return x.carryOut();
        }
    }

    private static int[] totals(RoadPaint x) {
        return Roads.totals(x);
    }

    private static boolean same(int[] one, int[] other) {
        return java.util.Arrays.equals(one, other);
    }

    private static void promise23NotAfterErrors() {
        RoadPaint x = new RoadPaint();
        x.arrow(3, 0, 0);
        x.arrow(0, 0, 3);
        x.word(0, 0, 4);
        x.dash(0, 0, 4);
        x.erase(0, 16);
        x.set(2, 1);
        x.set(0, 0);
        x.traffic(0, 21);
        x.bring(0);
        x.bring(80);
        x.pass(0);
        x.night(16, 0);
        x.carryOut();
        x.restore();
        x.total(0);
        x.whyNot(0, 0, 0);
        x.readableFor(0, 0);
        x.bestNight();
        x.fewestChanges(0, 0);
        x.cell(0, 0, 0);
        x.line(0, 0, 0);
        x.mayChange(0, 1, 0, 0);
        x.append(97);
        x.errorPosition();
        x.clearText();
        x.save();
        check.due("no state", x.undo(), RoadPaint.NOT_POSSIBLE);
        x.arrow(0, 0, 0);
        x.arrow(0, 1, 1);
        check.due("a refused arrow records nothing", x.undo(), 0);
        check.due("no arrow", x.total(0), 0);
    }

    private static void promise23NoDifference() {
        RoadPaint x = new RoadPaint();
        x.erase(0, 0);
        x.dash(0, 0, 0);
        x.set(0, 30);
        x.traffic(0, 5);
        check.due("calls that make no difference", x.undo(), 3);
        x.night(0, 0);
        check.due("a night without signs", x.undo(), 3);
        check.due("nights", x.total(6), 0);
    }

    private static void promise24Save() {
        RoadPaint x = new RoadPaint();
        check.due("no days", x.save(), 0);
        x.pass(7);
        x.word(0, 0, 0);
        check.due("days so far", x.save(), 7);
        x.word(0, 1, 0);
        x.pass(2);
        check.due("the later state", x.restore(), 7);
        check.due("words", x.total(1), 1);
        x.undo();
        check.due("the days again", x.total(5), 9);
        check.due("save records nothing", x.undo(), 3);
    }

    private static void promise25Restore() {
        RoadPaint x = new RoadPaint();
        check.due("nothing is saved", x.restore(), RoadPaint.NOT_POSSIBLE);
        x.arrow(1, 5, 2);
        x.word(1, 5, 3);
        x.dash(1, 5, 2);
        x.traffic(2, 11);
        x.set(1, 7);
        x.bring(3);
        x.pass(3);
        int[] saved = totals(x);
        x.save();
        x.erase(1, 5);
        x.dash(1, 5, 0);
        x.traffic(2, 1);
        x.set(1, 8);
        x.night(0, 0);
        x.pass(5);
        x.append(100);
        int[] later = totals(x);
        check.due("days then", x.restore(), 3);
        check.isTrue("as it was saved", same(saved, totals(x)));
        check.due("the way", x.cell(1, 5, 0), 2);
        check.due("the word", x.cell(1, 5, 2), 3);
        check.due("the dash", x.line(1, 5, 0), 2);
        check.due("the buffer stays", x.clearText(), 1);
        x.undo();
        check.isTrue("restore is undone", same(later, totals(x)));
        x.word(0, 0, 0);
        x.restore();
        x.word(0, 1, 0);
        check.due("it remains saved", x.restore(), 3);
        check.isTrue("as it was saved, again", same(saved, totals(x)));
        x.undo();
        x.undo();
        x.undo();
        check.due("undo past restore", x.cell(0, 0, 2), 0);
        check.due("the saved state outlives undo", x.restore(), 3);
    }
}
