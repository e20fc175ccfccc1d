/** The edges of the road and of the rules for arrows; promises 1 to 5, 11, 12, 14 and 15. */
public final class RoadEdgesTest {
    private static final int NONE = RoadPaint.NONE;
    private static final int NOT_POSSIBLE = RoadPaint.NOT_POSSIBLE;
    private static final Check check = new Check("RoadEdgesTest");

    public static void main(String[] args) {
        emptyRoad();
        cellsOfTheirOwn();
        linesOfTheirOwn();
        linesBetweenLanes();
        fullRoad();
        eachTotal();
        emptyCell();
        freeLanes();
        inPlaceOfAnother();
        previousDash();
        dashZero();
        removedSigns();
        fourMiles();
        endsOfTheRoad();
        bothSides();
        meetings();
        firstReason();
        lanesBeside();
        solidLines();
        otherWays();
        dashesChangedLater();
        predictedRefusals();
        check.end();
    }

    private static void emptyRoad() {
        check.sentence("at first none of both; at first 0; Creates a road without signs");
        RoadPaint x = new RoadPaint();
        for (int mile = 0; mile < 16; mile++) {
            for (int lane = 0; lane < 3; lane++) {
                check.due("arrow", x.cell(lane, mile, 0), NONE);
                check.due("its strength", x.cell(lane, mile, 1), 0);
                check.due("word", x.cell(lane, mile, 2), NONE);
                check.due("its strength", x.cell(lane, mile, 3), 0);
            }
            for (int line = 0; line < 2; line++) {
                check.due("dash", x.line(line, mile, 0), 0);
                check.due("its strength", x.line(line, mile, 1), 0);
            }
        }
        int[] totals = {0, 0, 0, 0, 20, 0, 0, 0, 0, 0, 5, 5, 5, 30, 12};
        check.allDue("totals", Roads.totals(x), totals);
    }

    private static void cellsOfTheirOwn() {
        check.sentence("The road has 3 lanes, 0 to 2, and 16 miles, 0 to 15");
        for (int lane = 0; lane < 3; lane++) {
            for (int mile = 0; mile < 16; mile++) {
                RoadPaint x = new RoadPaint();
                check.due("the first word", x.word(lane, mile, 1), 1);
                check.due("the first arrow", x.arrow(lane, mile, 1), 1);
                for (int cell = 0; cell < 48; cell++) {
                    boolean here = cell == 16 * lane + mile;
                    String name = "painted " + lane + " " + mile + ", cell " + cell;
                    check.due(name, x.cell(cell / 16, cell % 16, 2), here ? 1 : NONE);
                    check.due(name, x.cell(cell / 16, cell % 16, 0), here ? 1 : NONE);
                }
                check.due("erased", x.erase(lane, mile), 2);
            }
        }
    }

    private static void linesOfTheirOwn() {
        check.sentence("A line has at each mile a dash");
        for (int line = 0; line < 2; line++) {
            for (int mile = 0; mile < 16; mile++) {
                RoadPaint x = new RoadPaint();
                x.dash(line, mile, 2);
                for (int place = 0; place < 32; place++) {
                    boolean here = place == 16 * line + mile;
                    String name = "painted " + line + " " + mile + ", place " + place;
                    check.due(name, x.line(place / 16, place % 16, 0), here ? 2 : 0);
                    check.due(name, x.line(place / 16, place % 16, 1), here ? 100 : 0);
                }
            }
        }
    }

    private static void linesBetweenLanes() {
        check.sentence("Between the lanes 0 and 1 is the line 0, between the lanes 1 and 2 the line 1");
        for (int line = 0; line < 2; line++) {
            RoadPaint x = new RoadPaint();
            x.dash(line, 4, 1);
            check.due("solid line " + line + ", 0 to 1", x.mayChange(0, 1, 4, 0), line);
            check.due("solid line " + line + ", 1 to 0", x.mayChange(1, 0, 4, 0), line);
            check.due("solid line " + line + ", 1 to 2", x.mayChange(1, 2, 4, 0), 1 - line);
            check.due("solid line " + line + ", 2 to 1", x.mayChange(2, 1, 4, 0), 1 - line);
        }
    }

    private static void fullRoad() {
        check.sentence("Returns the number of arrows, of words on the road then; the sum of all strengths");
        RoadPaint x = new RoadPaint();
        for (int i = 0; i < 48; i++) {
            check.due("words", x.word(i % 3, i / 3, i % 4), i + 1);
            check.due("arrows", x.arrow(i % 3, i / 3, 0), i + 1);
        }
        for (int i = 0; i < 32; i++) {
            check.due("dash before", x.dash(i % 2, i / 2, 1 + i % 3), 0);
        }
        check.due("a word again", x.word(2, 15, 3), 48);
        check.due("an arrow again", x.arrow(2, 15, 0), 48);
        int[] totals = {48, 48, 32, 48, 20, 0, 0, 0, 0, 12800, 5, 5, 5, 30, 12};
        check.allDue("totals", Roads.totals(x), totals);
        for (int i = 0; i < 48; i++) {
            check.due("word " + i, x.cell(i % 3, i / 3, 2), i == 47 ? 3 : i % 4);
            check.due("arrow " + i, x.cell(i % 3, i / 3, 0), 0);
        }
        for (int i = 0; i < 32; i++) {
            check.due("dash " + i, x.line(i % 2, i / 2, 0), 1 + i % 3);
        }
    }

    /** Each total has another value, so that none can stand for another one. */
    private static void eachTotal() {
        check.sentence("0 for the arrows, 1 for the words, .. 13 and 14 for the settings 0 and 1");
        RoadPaint x = new RoadPaint();
        x.traffic(0, 20);
        x.traffic(1, 16);
        x.traffic(2, 0);
        x.set(0, 41);
        x.set(1, 9);
        for (int mile = 0; mile < 10; mile++) {
            x.word(0, mile, 2);
        }
        x.arrow(0, 15, 0);
        x.arrow(1, 15, 0);
        x.pass(3);
        x.night(0, 15);
        x.night(0, 3);
        x.pass(2);
        for (int lane = 0; lane < 3; lane++) {
            x.arrow(lane, 2 * lane, 1);
            x.dash(lane / 2, 9 + lane, 2);
        }
        x.dash(1, 3, 1);
        x.dash(1, 4, 3);
        x.dash(1, 5, 0);
        x.word(0, 13, 3);
        x.word(0, 14, 3);
        x.pass(3);
        x.word(2, 8, 1);
        x.arrow(2, 10, 1);
        x.set(1, 7);
        // The first 12 signs are gone, 9 of them after they were repainted.
        int strengths = 40 + 52 + 100 + 100 + 2 * 40 + 100 + 2 * 46 + 3 * 76;
        int[] due = {4, 3, 5, 1, 11, 8, 2, 9, 12, strengths, 20, 16, 0, 41, 7};
        check.allDue("totals", Roads.totals(x), due);
    }

    private static void emptyCell() {
        check.sentence("0 for its arrow (NONE without one), 1 for the strength of the arrow (0 without one)");
        RoadPaint x = new RoadPaint();
        x.word(1, 7, 1);
        check.due("no arrow", x.cell(1, 7, 0), NONE);
        check.due("its strength", x.cell(1, 7, 1), 0);
        check.sentence("2 for its word (NONE without one), 3 for the strength of the word (0 without one)");
        RoadPaint y = new RoadPaint();
        y.arrow(1, 7, 2);
        check.due("no word", y.cell(1, 7, 2), NONE);
        check.due("its strength", y.cell(1, 7, 3), 0);
        check.sentence("4 for whether its word can be read");
        check.due("no word to read", y.cell(1, 7, 4), 0);
        y.set(0, 1);
        check.due("no word to read at the lowest setting", y.cell(1, 7, 4), 0);
        check.sentence("0 for the dash, 1 for its strength (0 without one)");
        check.due("no dash", y.line(1, 7, 0), 0);
        check.due("its strength", y.line(1, 7, 1), 0);
    }

    private static void freeLanes() {
        check.sentence("A lane is free for up if the arrow there is not down, and free for down if it is not up");
        for (int mile = 0; mile < 16; mile += 15) {
            RoadPaint x = new RoadPaint();
            check.due("up, without an arrow", x.cell(1, mile, 5), 1);
            check.due("down, without an arrow", x.cell(1, mile, 6), 1);
            x.arrow(1, mile, 0);
            check.due("up, with an arrow up", x.cell(1, mile, 5), 1);
            check.due("down, with an arrow up", x.cell(1, mile, 6), 0);
            x.arrow(1, mile, 1);
            check.due("up, with an arrow down", x.cell(1, mile, 5), 0);
            check.due("down, with an arrow down", x.cell(1, mile, 6), 1);
            x.arrow(1, mile, 2);
            check.due("up, with both ways", x.cell(1, mile, 5), 1);
            check.due("down, with both ways", x.cell(1, mile, 6), 1);
            x.arrow(1, mile, 1);
            x.erase(1, mile);
            check.due("up, after erasing", x.cell(1, mile, 5), 1);
        }
    }

    private static void inPlaceOfAnother() {
        check.sentence("Sets an arrow, with the strength 100, in place of the one that is there");
        RoadPaint x = new RoadPaint();
        x.arrow(0, 0, 0);
        x.pass(1);
        check.due("down in place of up", x.arrow(0, 0, 1), 1);
        check.due("its strength", x.cell(0, 0, 1), 100);
        check.due("both ways in place of down", x.arrow(0, 0, 2), 1);
        check.due("it is", x.cell(0, 0, 0), 2);
        x.pass(1);
        check.due("the same again", x.arrow(0, 0, 2), 1);
        check.due("its strength", x.cell(0, 0, 1), 100);
        check.sentence("Paints a word, with the strength 100, in place of the one that is there");
        RoadPaint y = new RoadPaint();
        y.word(0, 0, 3);
        y.pass(1);
        check.due("another word", y.word(0, 0, 0), 1);
        check.due("it is", y.cell(0, 0, 2), 0);
        check.due("its strength", y.cell(0, 0, 3), 100);
        check.sentence("Paints a dash, with the strength 100, in place of the one that is there");
        RoadPaint z = new RoadPaint();
        z.dash(0, 0, 3);
        z.pass(1);
        check.due("another dash", z.dash(0, 0, 1), 3);
        check.due("it is", z.line(0, 0, 0), 1);
        check.due("its strength", z.line(0, 0, 1), 100);
        check.due("one dash", z.total(2), 1);
    }

    private static void previousDash() {
        check.sentence("dash: Returns the previous dash");
        for (int before = 0; before < 4; before++) {
            for (int dash = 0; dash < 4; dash++) {
                RoadPaint x = new RoadPaint();
                x.dash(0, 0, before);
                check.due(dash + " after " + before, x.dash(0, 0, dash), before);
                check.due("it is", x.line(0, 0, 0), dash);
                check.due("the other line", x.dash(1, 0, dash), 0);
                check.due("the next mile", x.dash(0, 1, dash), 0);
            }
        }
    }

    private static void dashZero() {
        check.sentence("0 to 3; 0 removes it");
        for (int dash = 1; dash < 4; dash++) {
            RoadPaint x = new RoadPaint();
            check.due("the first", x.dash(1, 15, dash), 0);
            check.due("removed", x.dash(1, 15, 0), dash);
            check.due("it is", x.line(1, 15, 0), 0);
            check.due("its strength", x.line(1, 15, 1), 0);
            check.due("dashes", x.total(2), 0);
            check.due("the sum of strengths", x.total(9), 0);
            check.due("removed twice", x.dash(1, 15, 0), 0);
            check.due("the next", x.dash(1, 15, dash), 0);
        }
    }

    private static void removedSigns() {
        check.sentence("Removes the arrow and the word of a cell; returns the number of signs that are removed");
        for (int mile = 0; mile < 16; mile += 15) {
            RoadPaint x = new RoadPaint();
            check.due("an empty cell", x.erase(2, mile), 0);
            x.arrow(2, mile, 1);
            check.due("an arrow", x.erase(2, mile), 1);
            x.word(2, mile, 0);
            check.due("a word", x.erase(2, mile), 1);
            x.word(2, mile, 3);
            x.arrow(2, mile, 0);
            x.dash(1, mile, 1);
            check.due("both", x.erase(2, mile), 2);
            check.due("the dash stays", x.line(1, mile, 1), 100);
            check.due("the sum of strengths", x.total(9), 100);
            check.due("again", x.erase(2, mile), 0);
            x.traffic(2, 9);
            x.word(2, mile, 3);
            x.arrow(2, mile, 0);
            x.pass(11);
            check.due("strength", x.cell(2, mile, 1) + x.cell(2, mile, 3), 2);
            check.due("both, with a strength of 1", x.erase(2, mile), 2);
            check.due("no arrow", x.cell(2, mile, 0), NONE);
            check.due("no word", x.cell(2, mile, 2), NONE);
        }
    }

    private static void fourMiles() {
        check.sentence("each of both counts only if it is not more than 4 miles away");
        for (int lane = 0; lane < 3; lane++) {
            for (int mile = 0; mile < 16; mile++) {
                RoadPaint x = new RoadPaint();
                x.arrow(lane, mile, 2);
                for (int other = 0; other < 16; other++) {
                    boolean near = other != mile && Math.abs(other - mile) <= 4;
                    check.due("both ways at " + mile + " and " + other, x.whyNot(lane, other, 2), near ? 1 : 0);
                    check.due("up at " + other, x.whyNot(lane, other, 0), near && other < mile ? 1 : 0);
                    check.due("down at " + other, x.whyNot(lane, other, 1), near && other > mile ? 1 : 0);
                }
            }
        }
    }

    private static void endsOfTheRoad() {
        check.sentence("the nearest arrow at a higher mile of the same lane, or the nearest one at a lower mile");
        RoadPaint x = new RoadPaint();
        x.arrow(0, 15, 0);
        x.arrow(1, 15, 0);
        for (int mile = 0; mile < 5; mile++) {
            check.due("down, behind the end of the lane 0", x.whyNot(1, mile, 1), 0);
            check.due("down, behind the end of the lane 1", x.whyNot(2, mile, 1), 0);
        }
        RoadPaint y = new RoadPaint();
        y.arrow(1, 0, 1);
        y.arrow(2, 0, 1);
        for (int mile = 11; mile < 16; mile++) {
            check.due("up, ahead of the begin of the lane 1", y.whyNot(0, mile, 0), 0);
            check.due("up, ahead of the begin of the lane 2", y.whyNot(1, mile, 0), 0);
        }
        RoadPaint z = new RoadPaint();
        z.arrow(1, 7, 2);
        check.due("another lane", z.whyNot(0, 8, 2), 0);
        check.due("another lane", z.whyNot(2, 6, 2), 0);
        check.due("the only arrow in its own place", z.arrow(1, 7, 1), 1);
    }

    private static void bothSides() {
        check.sentence("at a higher mile of the same lane, or the nearest one at a lower mile");
        RoadPaint x = new RoadPaint();
        x.arrow(0, 5, 1);
        x.arrow(0, 6, 0);
        check.due("no arrow between them meets one", x.total(0), 2);
        check.due("up below down", x.arrow(0, 4, 0), NOT_POSSIBLE);
        check.due("down above up", x.arrow(0, 7, 1), NOT_POSSIBLE);
        check.due("down below down", x.arrow(0, 4, 1), 3);
        check.due("up above up", x.arrow(0, 7, 0), 4);
        RoadPaint y = new RoadPaint();
        y.arrow(0, 2, 1);
        y.arrow(0, 3, 1);
        y.arrow(0, 9, 0);
        y.arrow(0, 10, 0);
        check.due("up away from down, up ahead", y.whyNot(0, 5, 0), 0);
        check.due("both ways, the higher one is up, the lower one is down", y.whyNot(0, 6, 2), 0);
        RoadPaint z = new RoadPaint();
        z.arrow(0, 4, 0);
        z.arrow(0, 9, 1);
        check.due("5 miles apart", z.total(0), 2);
        for (int mile = 5; mile < 9; mile++) {
            for (int way = 0; way < 3; way++) {
                check.due("between them at " + mile, z.whyNot(0, mile, way), 1);
            }
        }
    }

    private static void meetings() {
        check.sentence("if the one at the lower mile is up or both ways, and the one at the higher mile down or both");
        String meeting = "01 02 21 22 ";
        for (int lower = 0; lower < 3; lower++) {
            for (int higher = 0; higher < 3; higher++) {
                int due = meeting.indexOf(lower + "" + higher + " ") >= 0 ? 1 : 0;
                RoadPaint x = new RoadPaint();
                x.arrow(2, 8, lower);
                check.due(lower + " below " + higher, x.whyNot(2, 9, higher), due);
                RoadPaint y = new RoadPaint();
                y.arrow(2, 8, higher);
                check.due(higher + " above " + lower, y.whyNot(2, 7, lower), due);
            }
        }
    }

    private static void firstReason() {
        check.sentence("An arrow is refused for the first of these reasons that applies");
        RoadPaint x = new RoadPaint();
        x.arrow(0, 3, 1);
        x.arrow(1, 7, 1);
        check.due("both reasons, 4 miles away", x.whyNot(1, 3, 0), 1);
        RoadPaint y = new RoadPaint();
        y.arrow(0, 3, 1);
        y.arrow(1, 8, 1);
        check.due("the second reason alone, 5 miles away", y.whyNot(1, 3, 0), 2);
        RoadPaint z = new RoadPaint();
        z.arrow(0, 3, 1);
        z.arrow(1, 7, 1);
        z.dash(0, 3, 1);
        check.due("the first reason alone", z.whyNot(1, 3, 0), 1);
        z.erase(1, 7);
        check.due("none", z.whyNot(1, 3, 0), 0);
        check.due("none", z.arrow(1, 3, 0), 2);
    }

    private static void lanesBeside() {
        check.sentence("at the same mile, the lane beside it has an arrow to the other way");
        for (int mile = 0; mile < 16; mile++) {
            RoadPaint x = new RoadPaint();
            x.arrow(1, mile, 0);
            check.due("the lane 0", x.whyNot(0, mile, 1), 2);
            check.due("the lane 2", x.whyNot(2, mile, 1), 2);
            if (mile > 0) {
                check.due("a mile lower", x.whyNot(0, mile - 1, 1), 0);
            }
            if (mile < 15) {
                check.due("a mile higher", x.whyNot(0, mile + 1, 1), 0);
            }
            RoadPaint y = new RoadPaint();
            y.arrow(0, mile, 0);
            check.due("two lanes away", y.whyNot(2, mile, 1), 0);
            check.due("the lane 1 beside 0", y.whyNot(1, mile, 1), 2);
            RoadPaint z = new RoadPaint();
            z.arrow(2, mile, 0);
            check.due("two lanes away", z.whyNot(0, mile, 1), 0);
            check.due("the lane 1 beside 2", z.whyNot(1, mile, 1), 2);
        }
    }

    private static void solidLines() {
        check.sentence("the line between them is not solid there (1 or 3)");
        int[] due = {2, 0, 2, 0};
        for (int dash = 0; dash < 4; dash++) {
            for (int lane = 0; lane < 3; lane += 2) {
                RoadPaint x = new RoadPaint();
                x.dash(lane / 2, 9, dash);
                x.dash(1 - lane / 2, 9, 3 - dash);
                x.arrow(lane, 9, 1);
                check.due("the lane 1 beside " + lane + ", dash " + dash, x.whyNot(1, 9, 0), due[dash]);
                x.erase(lane, 9);
                x.arrow(1, 9, 1);
                check.due("the lane " + lane + " beside 1, dash " + dash, x.whyNot(lane, 9, 0), due[dash]);
            }
        }
        RoadPaint y = new RoadPaint();
        y.dash(0, 8, 1);
        y.dash(0, 10, 1);
        y.arrow(0, 9, 1);
        check.due("solid at the miles beside", y.whyNot(1, 9, 0), 2);
    }

    private static void otherWays() {
        check.sentence("an arrow both ways is to no other way");
        for (int way = 0; way < 3; way++) {
            RoadPaint x = new RoadPaint();
            x.arrow(1, 5, 2);
            check.due(way + " beside both ways", x.whyNot(0, 5, way), 0);
            RoadPaint y = new RoadPaint();
            y.arrow(1, 5, way);
            check.due("both ways beside " + way, y.whyNot(2, 5, 2), 0);
            check.due("the same way", y.whyNot(2, 5, way), 0);
        }
        check.due("beside none", new RoadPaint().whyNot(1, 5, 0), 0);
    }

    private static void dashesChangedLater() {
        check.sentence("Only the setting of an arrow is refused; dashes changed later do not take arrows away");
        for (int dash = 0; dash < 4; dash += 2) {
            RoadPaint x = new RoadPaint();
            x.dash(0, 9, 1);
            x.arrow(0, 9, 0);
            check.due("beside a solid line", x.arrow(1, 9, 1), 2);
            x.dash(0, 9, dash);
            check.due("both stay", x.total(0), 2);
            check.due("the one", x.cell(0, 9, 0), 0);
            check.due("the other", x.cell(1, 9, 0), 1);
            check.due("would be refused", x.whyNot(1, 9, 1), 2);
        }
        RoadPaint y = new RoadPaint();
        y.dash(0, 9, 3);
        y.traffic(0, 20);
        y.traffic(1, 20);
        y.pass(4);
        y.arrow(0, 9, 0);
        y.arrow(1, 9, 1);
        check.due("the dash alone is gone", y.pass(1), 1);
        check.due("both stay", y.total(0), 2);
    }

    private static void predictedRefusals() {
        check.sentence("Returns the reason, 1 or 2, 0 if it would be set");
        for (int i = 0; i < 9; i++) {
            RoadPaint x = new RoadPaint();
            x.arrow(1, 4, 0);
            x.arrow(1, 9, 1);
            int reason = x.whyNot(i % 3, 8, i / 3);
            check.due("arrow " + i, x.arrow(i % 3, 8, i / 3), reason == 0 ? 3 : NOT_POSSIBLE);
        }
        for (int i = 0; i < 9; i++) {
            RoadPaint x = new RoadPaint();
            x.arrow(0, 4, 0);
            x.arrow(2, 4, 0);
            x.dash(0, 4, 1);
            int reason = x.whyNot(i % 3, 4, i / 3);
            check.due("arrow " + i + ", reason", reason, i == 4 ? 2 : 0);
            check.due("arrow " + i, x.arrow(i % 3, 4, i / 3) == NOT_POSSIBLE ? 2 : 0, reason);
        }
    }
}
