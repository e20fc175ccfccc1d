/** Promises 1 to 5: a new object, arrow, word, dash, erase. */
public final class SignsTest {
    private static final Check check = new Check("SignsTest");

    public static void main(String[] args) {
        promise1NewObject();
        promise2Arrow();
        promise2HeadOn();
        promise2HeadOnOnlyTheNearest();
        promise2OtherWayBeside();
        promise2ReasonOneFirst();
        promise3Word();
        promise4Dash();
        promise5Erase();
        check.end();
    }

    private static void promise1NewObject() {
        RoadPaint x = new RoadPaint();
        int[] due = {0, 0, 0, 0, 20, 0, 0, 0, 0, 0, 5, 5, 5, 30, 12};
        for (int what = 0; what < due.length; what++) {
            check.due("new total(" + what + ")", x.total(what), due[what]);
        }
        for (int mile = 0; mile < 16; mile++) {
            for (int lane = 0; lane < 3; lane++) {
                check.due("new arrow", x.cell(lane, mile, 0), RoadPaint.NONE);
                check.due("new word", x.cell(lane, mile, 2), RoadPaint.NONE);
            }
            for (int line = 0; line < 2; line++) {
                check.due("new dash", x.line(line, mile, 0), 0);
            }
        }
        check.due("new undo", x.undo(), RoadPaint.NOT_POSSIBLE);
        check.due("new restore", x.restore(), RoadPaint.NOT_POSSIBLE);
        check.due("new clearText", x.clearText(), 0);
        RoadPaint y = new RoadPaint();
        x.word(0, 0, 0);
        check.due("two objects share nothing", y.total(1), 0);
    }

    private static void promise2Arrow() {
        RoadPaint x = new RoadPaint();
        check.due("first arrow", x.arrow(0, 0, 0), 1);
        check.due("arrow at the last cell", x.arrow(2, 15, 2), 2);
        check.due("arrow in place of another", x.arrow(0, 0, 2), 2);
        check.due("its way", x.cell(0, 0, 0), 2);
        x.pass(3);
        check.due("weaker", x.cell(0, 0, 1), 85);
        check.due("set anew", x.arrow(0, 0, 1), 2);
        check.due("strength anew", x.cell(0, 0, 1), 100);
        check.due("the other is as it was", x.cell(2, 15, 1), 85);
        check.due("lane -1", x.arrow(-1, 0, 0), RoadPaint.NO_SUCH);
        check.due("lane 3", x.arrow(3, 0, 0), RoadPaint.NO_SUCH);
        check.due("mile -1", x.arrow(0, -1, 0), RoadPaint.NO_SUCH);
        check.due("mile 16", x.arrow(0, 16, 9), RoadPaint.NO_SUCH);
        check.due("way -1", x.arrow(0, 0, -1), RoadPaint.BAD_VALUE);
        check.due("way 3", x.arrow(0, 0, 3), RoadPaint.BAD_VALUE);
        check.due("extremes", x.arrow(Integer.MIN_VALUE, Integer.MAX_VALUE, 0), RoadPaint.NO_SUCH);
        check.due("arrows after the errors", x.total(0), 2);
    }

    private static void promise2HeadOn() {
        // Rows: the way of the lower arrow; columns: the way of the higher one.
        int[][] meets = {{0, 1, 1}, {0, 0, 0}, {0, 1, 1}};
        for (int lower = 0; lower < 3; lower++) {
            for (int higher = 0; higher < 3; higher++) {
                for (int distance = 1; distance <= 6; distance++) {
                    boolean refused = meets[lower][higher] == 1 && distance <= 4;
                    int due = refused ? RoadPaint.NOT_POSSIBLE : 2;
                    String name = lower + " below " + higher + " at " + distance;
                    RoadPaint x = new RoadPaint();
                    x.arrow(1, 5, lower);
                    check.due(name + ", the higher one set", x.arrow(1, 5 + distance, higher), due);
                    RoadPaint y = new RoadPaint();
                    y.arrow(1, 5 + distance, higher);
                    check.due(name + ", the lower one set", y.arrow(1, 5, lower), due);
                    RoadPaint z = new RoadPaint();
                    z.arrow(0, 5, lower);
                    check.due(name + ", in another lane", z.arrow(2, 5 + distance, higher), 2);
                }
            }
        }
    }

    private static void promise2HeadOnOnlyTheNearest() {
        RoadPaint x = new RoadPaint();
        x.arrow(0, 8, 1);
        x.arrow(0, 7, 1);
        x.arrow(0, 6, 1);
        check.due("up below a row of down", x.arrow(0, 3, 0), RoadPaint.NOT_POSSIBLE);
        RoadPaint y = new RoadPaint();
        y.arrow(0, 3, 0);
        y.arrow(0, 8, 1);
        check.due("down at 8 is 5 away from up at 3", y.total(0), 2);
        y.arrow(0, 4, 0);
        check.due("not set: 4 away from down at 8", y.total(0), 2);
        y.erase(0, 8);
        y.arrow(0, 6, 0);
        check.due("up hides nothing of its own", y.arrow(0, 7, 1), RoadPaint.NOT_POSSIBLE);
        RoadPaint z = new RoadPaint();
        z.arrow(2, 4, 0);
        z.arrow(2, 9, 1);
        z.arrow(2, 3, 1);
        check.due("down at 3 behind up at 4", z.total(0), 3);
        check.due("up at 2 meets down at 3", z.arrow(2, 2, 0), RoadPaint.NOT_POSSIBLE);
        check.due("down at 2 meets none: the nearest is down", z.arrow(2, 2, 1), 4);
        z.arrow(2, 5, 0);
        check.due("up at 5 is 4 away from down at 9", z.total(0), 4);
        RoadPaint w = new RoadPaint();
        w.arrow(1, 0, 0);
        w.arrow(1, 5, 1);
        w.arrow(1, 4, 1);
        check.due("down at 4 is 4 away from up at 0", w.total(0), 2);
        w.erase(1, 0);
        w.arrow(1, 2, 1);
        w.arrow(1, 1, 1);
        check.due("rows of down", w.arrow(1, 6, 0), 4);
        check.due("the nearest at 2 hides the farther", w.arrow(1, 3, 1), 5);
    }

    private static void promise2OtherWayBeside() {
        for (int dash = 0; dash < 4; dash++) {
            for (int way = 0; way < 3; way++) {
                for (int beside = 0; beside < 3; beside++) {
                    boolean other = way + beside == 1;
                    boolean solid = dash == 1 || dash == 3;
                    int due = other && !solid ? RoadPaint.NOT_POSSIBLE : 2;
                    for (int lane = 0; lane < 3; lane++) {
                        for (int next = 0; next < 3; next++) {
                            if (Math.abs(lane - next) == 1) {
                                RoadPaint x = new RoadPaint();
                                x.dash(Math.min(lane, next), 9, dash);
                                x.arrow(next, 9, beside);
                                check.due("beside: dash " + dash + ", ways " + way + beside,
                                        x.arrow(lane, 9, way), due);
                            }
                        }
                    }
                }
            }
        }
        RoadPaint y = new RoadPaint();
        y.arrow(0, 9, 0);
        check.due("two lanes away", y.arrow(2, 9, 1), 2);
        check.due("another mile", y.arrow(1, 8, 1), 3);
        y.dash(1, 9, 1);
        check.due("the solid line on the wrong side", y.arrow(1, 9, 1), RoadPaint.NOT_POSSIBLE);
        y.dash(1, 9, 0);
        y.dash(0, 9, 1);
        check.due("beside another down", y.arrow(1, 9, 1), 4);
        check.due("dash taken away later", y.dash(0, 9, 0), 1);
        check.due("takes no arrow away", y.total(0), 4);
        check.due("the same arrow is refused now", y.arrow(1, 9, 1), RoadPaint.NOT_POSSIBLE);
    }

    private static void promise2ReasonOneFirst() {
        RoadPaint x = new RoadPaint();
        x.arrow(0, 5, 1);
        x.arrow(1, 7, 1);
        check.due("both reasons", x.whyNot(1, 5, 0), 1);
        check.due("both reasons refuse", x.arrow(1, 5, 0), RoadPaint.NOT_POSSIBLE);
        x.erase(1, 7);
        check.due("the second reason is left", x.whyNot(1, 5, 0), 2);
    }

    private static void promise3Word() {
        RoadPaint x = new RoadPaint();
        check.due("first word", x.word(0, 0, 0), 1);
        check.due("second word", x.word(2, 15, 3), 2);
        check.due("word in place of another", x.word(0, 0, 2), 2);
        check.due("it is", x.cell(0, 0, 2), 2);
        x.pass(2);
        check.due("weaker", x.cell(0, 0, 3), 90);
        x.word(0, 0, 2);
        check.due("strength anew", x.cell(0, 0, 3), 100);
        check.due("lane 3", x.word(3, 0, 0), RoadPaint.NO_SUCH);
        check.due("lane -1", x.word(-1, 0, 4), RoadPaint.NO_SUCH);
        check.due("mile 16", x.word(0, 16, 0), RoadPaint.NO_SUCH);
        check.due("mile -1", x.word(0, -1, 0), RoadPaint.NO_SUCH);
        check.due("word 4", x.word(0, 0, 4), RoadPaint.BAD_VALUE);
        check.due("word -1", x.word(0, 0, -1), RoadPaint.BAD_VALUE);
        check.due("words after the errors", x.total(1), 2);
        check.due("the word after the errors", x.cell(0, 0, 2), 2);
    }

    private static void promise4Dash() {
        RoadPaint x = new RoadPaint();
        check.due("nothing before", x.dash(1, 15, 3), 0);
        check.due("both before", x.dash(1, 15, 2), 3);
        x.pass(4);
        check.due("weaker", x.line(1, 15, 1), 80);
        check.due("the same again", x.dash(1, 15, 2), 2);
        check.due("strength anew", x.line(1, 15, 1), 100);
        check.due("removed", x.dash(1, 15, 0), 2);
        check.due("no strength", x.line(1, 15, 1), 0);
        check.due("no dash", x.total(2), 0);
        check.due("nothing is no sign", x.dash(0, 0, 0), 0);
        check.due("no dash yet", x.total(2), 0);
        check.due("removing is not being gone by days", x.total(8), 0);
        check.due("line 2", x.dash(2, 0, 0), RoadPaint.NO_SUCH);
        check.due("line -1", x.dash(-1, 0, 9), RoadPaint.NO_SUCH);
        check.due("mile 16", x.dash(0, 16, 0), RoadPaint.NO_SUCH);
        check.due("mile -1", x.dash(0, -1, 0), RoadPaint.NO_SUCH);
        check.due("dash 4", x.dash(0, 0, 4), RoadPaint.BAD_VALUE);
        check.due("dash -1", x.dash(0, 0, -1), RoadPaint.BAD_VALUE);
    }

    private static void promise5Erase() {
        RoadPaint x = new RoadPaint();
        check.due("nothing there", x.erase(1, 1), 0);
        x.arrow(1, 1, 0);
        check.due("an arrow", x.erase(1, 1), 1);
        x.word(1, 1, 0);
        check.due("a word", x.erase(1, 1), 1);
        x.arrow(1, 1, 0);
        x.word(1, 1, 0);
        x.dash(0, 1, 1);
        x.dash(1, 1, 1);
        x.word(1, 2, 0);
        check.due("both", x.erase(1, 1), 2);
        check.due("no arrow", x.cell(1, 1, 0), RoadPaint.NONE);
        check.due("no word", x.cell(1, 1, 2), RoadPaint.NONE);
        check.due("no strength of an arrow", x.cell(1, 1, 1), 0);
        check.due("no strength of a word", x.cell(1, 1, 3), 0);
        check.due("the dashes stay", x.total(2), 2);
        check.due("the next word stays", x.total(1), 1);
        x.word(2, 15, 3);
        check.due("the last cell", x.erase(2, 15), 1);
        check.due("lane 3", x.erase(3, 0), RoadPaint.NO_SUCH);
        check.due("lane -1", x.erase(-1, 0), RoadPaint.NO_SUCH);
        check.due("mile 16", x.erase(0, 16), RoadPaint.NO_SUCH);
        check.due("mile -1", x.erase(0, -1), RoadPaint.NO_SUCH);
        check.due("erasing is not being gone by days", x.total(8), 0);
    }
}
