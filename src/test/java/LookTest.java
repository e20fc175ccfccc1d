/** Promises 11 to 14: cell, line, mayChange, total. */
public final class LookTest {
    private static final Check check = new Check("LookTest");

    public static void main(String[] args) {
        promise11Cell();
        promise11Free();
        promise12Line();
        promise13MayChange();
        promise13Errors();
        promise14Total();
        check.end();
    }

    private static void promise11Cell() {
        RoadPaint x = new RoadPaint();
        x.arrow(1, 2, 1);
        x.pass(1);
        x.word(1, 2, 3);
        int[] due = {1, 95, 3, 100, 1, 0, 1};
        for (int part = 0; part < due.length; part++) {
            check.due("part " + part, x.cell(1, 2, part), due[part]);
        }
        int[] empty = {RoadPaint.NONE, 0, RoadPaint.NONE, 0, 0, 1, 1};
        for (int part = 0; part < empty.length; part++) {
            check.due("part " + part + " of an empty cell", x.cell(2, 2, part), empty[part]);
        }
        x.pass(14);
        check.due("at 30 it can be read", x.cell(1, 2, 4), 1);
        x.set(0, 31);
        check.due("at 30 of 31 it can not", x.cell(1, 2, 4), 0);
        check.due("part 7", x.cell(0, 0, 7), RoadPaint.BAD_VALUE);
        check.due("part -1", x.cell(0, 0, -1), RoadPaint.BAD_VALUE);
        check.due("lane 3", x.cell(3, 0, 7), RoadPaint.NO_SUCH);
        check.due("lane -1", x.cell(-1, 0, 0), RoadPaint.NO_SUCH);
        check.due("mile 16", x.cell(0, 16, 0), RoadPaint.NO_SUCH);
        check.due("mile -1", x.cell(0, -1, 0), RoadPaint.NO_SUCH);
    }

    private static void promise11Free() {
        int[] freeUp = {1, 0, 1};
        int[] freeDown = {0, 1, 1};
        for (int way = 0; way < 3; way++) {
            RoadPaint x = new RoadPaint();
            x.arrow(0, 15, way);
            check.due("free for up with " + way, x.cell(0, 15, 5), freeUp[way]);
            check.due("free for down with " + way, x.cell(0, 15, 6), freeDown[way]);
        }
    }

    private static void promise12Line() {
        RoadPaint x = new RoadPaint();
        x.dash(1, 15, 3);
        x.pass(1);
        check.due("dash", x.line(1, 15, 0), 3);
        check.due("strength", x.line(1, 15, 1), 95);
        check.due("no dash", x.line(0, 15, 0), 0);
        check.due("no strength", x.line(0, 15, 1), 0);
        check.due("part 2", x.line(0, 0, 2), RoadPaint.BAD_VALUE);
        check.due("part -1", x.line(0, 0, -1), RoadPaint.BAD_VALUE);
        check.due("line 2", x.line(2, 0, 2), RoadPaint.NO_SUCH);
        check.due("line -1", x.line(-1, 0, 0), RoadPaint.NO_SUCH);
        check.due("mile 16", x.line(0, 16, 0), RoadPaint.NO_SUCH);
        check.due("mile -1", x.line(0, -1, 0), RoadPaint.NO_SUCH);
    }

    private static void promise13MayChange() {
        int[] toHigher = {1, 0, 1, 1};
        int[] toLower = {1, 0, 1, 0};
        for (int dash = 0; dash < 4; dash++) {
            for (int line = 0; line < 2; line++) {
                for (int way = 0; way < 2; way++) {
                    RoadPaint x = new RoadPaint();
                    x.dash(line, 6, dash);
                    check.due("to higher over " + dash, x.mayChange(line, line + 1, 6, way), toHigher[dash]);
                    check.due("to lower over " + dash, x.mayChange(line + 1, line, 6, way), toLower[dash]);
                    x.arrow(line + 1, 6, 1 - way);
                    check.due("to a lane that is not free", x.mayChange(line, line + 1, 6, way), 0);
                    check.due("from a lane that is not free", x.mayChange(line + 1, line, 6, way), toLower[dash]);
                    check.due("for the other way", x.mayChange(line, line + 1, 6, 1 - way), toHigher[dash]);
                    check.due("at another mile", x.mayChange(line, line + 1, 7, way), 1);
                }
            }
        }
    }

    private static void promise13Errors() {
        RoadPaint x = new RoadPaint();
        check.due("from 3", x.mayChange(3, 2, 0, 0), RoadPaint.NO_SUCH);
        check.due("from -1", x.mayChange(-1, 0, 0, 0), RoadPaint.NO_SUCH);
        check.due("to 3", x.mayChange(2, 3, 0, 0), RoadPaint.NO_SUCH);
        check.due("to -1", x.mayChange(0, -1, 0, 0), RoadPaint.NO_SUCH);
        check.due("mile 16", x.mayChange(0, 2, 16, 0), RoadPaint.NO_SUCH);
        check.due("mile -1", x.mayChange(0, 1, -1, 5), RoadPaint.NO_SUCH);
        check.due("two lanes away", x.mayChange(0, 2, 0, 0), RoadPaint.BAD_VALUE);
        check.due("two lanes away, back", x.mayChange(2, 0, 0, 0), RoadPaint.BAD_VALUE);
        check.due("the same lane", x.mayChange(1, 1, 0, 0), RoadPaint.BAD_VALUE);
        check.due("way 2", x.mayChange(0, 1, 0, 2), RoadPaint.BAD_VALUE);
        check.due("way -1", x.mayChange(0, 1, 0, -1), RoadPaint.BAD_VALUE);
        check.due("extremes", x.mayChange(Integer.MAX_VALUE, Integer.MIN_VALUE, 0, 0), RoadPaint.NO_SUCH);
    }

    private static void promise14Total() {
        RoadPaint x = new RoadPaint();
        x.traffic(0, 20);
        x.traffic(1, 10);
        x.traffic(2, 0);
        x.arrow(0, 0, 0);
        x.word(0, 1, 2);
        x.word(1, 1, 3);
        x.word(2, 1, 0);
        x.dash(0, 2, 1);
        x.dash(0, 3, 2);
        x.dash(1, 4, 3);
        x.dash(1, 5, 0);
        x.pass(4);
        x.set(0, 60);
        x.set(1, 1);
        int[] before = {1, 3, 3, 2, 20, 4, 0, 0, 0, 20 + 20 + 60 + 100 + 40 + 40 + 80, 20, 10, 0, 60, 1};
        for (int what = 0; what < before.length; what++) {
            check.due("total(" + what + ")", x.total(what), before[what]);
        }
        x.night(0, 15);
        x.pass(1);
        int[] after = {1, 2, 3, 1, 19, 5, 1, 1, 1, 80 + 0 + 50 + 100 + 25 + 25 + 75, 20, 10, 0, 60, 1};
        for (int what = 0; what < after.length; what++) {
            check.due("later total(" + what + ")", x.total(what), after[what]);
        }
        check.due("total(15)", x.total(15), RoadPaint.BAD_VALUE);
        check.due("total(-1)", x.total(-1), RoadPaint.BAD_VALUE);
    }
}
