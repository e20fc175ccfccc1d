/** The edges of changing lanes and of driving along the road; promises 13 and 18. */
public final class DriverEdgesTest {
    private static final int UP = 0;
    private static final int DOWN = 1;
    private static final int NONE = RoadPaint.NONE;
    private static final Check check = new Check("DriverEdgesTest");

    public static void main(String[] args) {
        laneThatIsFree();
        laneThatIsLeft();
        linesThatLet();
        bothFromTheLowerLane();
        gonePaint();
        emptyRoad();
        freeAtTheFirstMile();
        freeAtTheLastMile();
        freeAtEachMile();
        wholeRoadUpAndDown();
        changeAheadOfTheNextMile();
        changeAtTheFirstMile();
        changeAtTheLastMile();
        severalChangesAtOneMile();
        changesAsMayChangeTells();
        laneBetweenIsNotFree();
        whicheverLaneAtTheEnd();
        fewestOfSeveral();
        mostChanges();
        cannotBeDone();
        check.end();
    }

    /** The arrow that keeps drivers of this way out. */
    private static int against(int way) {
        return 1 - way;
    }

    /** The mile that is so far from the first one of this way. */
    private static int mileOf(int way, int far) {
        return way == UP ? far : 15 - far;
    }

    private static void paintLines(RoadPaint x, int dash) {
        for (int mile = 0; mile < 16; mile++) {
            x.dash(0, mile, dash);
            x.dash(1, mile, dash);
        }
    }

    private static void laneThatIsFree() {
        check.sentence("1 if the lane to is free for this way at this mile");
        for (int mile = 0; mile < 16; mile += 15) {
            for (int way = 0; way < 2; way++) {
                for (int arrow = 0; arrow < 3; arrow++) {
                    RoadPaint x = new RoadPaint();
                    x.arrow(1, mile, arrow);
                    int due = arrow == against(way) ? 0 : 1;
                    check.due("0 to 1, arrow " + arrow, x.mayChange(0, 1, mile, way), due);
                    check.due("2 to 1, arrow " + arrow, x.mayChange(2, 1, mile, way), due);
                    check.due("at another mile", x.mayChange(0, 1, mile == 0 ? 1 : 14, way), 1);
                }
            }
        }
    }

    private static void laneThatIsLeft() {
        check.sentence("the lane to is free (whatever the lane from is)");
        for (int way = 0; way < 2; way++) {
            RoadPaint x = new RoadPaint();
            x.arrow(1, 5, against(way));
            check.due("1 to 0", x.mayChange(1, 0, 5, way), 1);
            check.due("1 to 2", x.mayChange(1, 2, 5, way), 1);
        }
    }

    private static void linesThatLet() {
        check.sentence("and the line between the lanes is 0 or 2 there; otherwise 0");
        int[] due = {1, 0, 1};
        for (int dash = 0; dash < 3; dash++) {
            for (int lane = 0; lane < 2; lane++) {
                RoadPaint x = new RoadPaint();
                x.dash(lane, 15, dash);
                check.due("to the higher lane over " + dash, x.mayChange(lane, lane + 1, 15, UP), due[dash]);
                check.due("to the lower lane over " + dash, x.mayChange(lane + 1, lane, 15, DOWN), due[dash]);
                check.due("a mile lower", x.mayChange(lane, lane + 1, 14, UP), 1);
                check.due("over the other line", x.mayChange(1, 2 - 2 * lane, 15, UP), 1);
            }
        }
    }

    private static void bothFromTheLowerLane() {
        check.sentence("or it is 3 and the lane from has the lower number");
        for (int lane = 0; lane < 2; lane++) {
            for (int way = 0; way < 2; way++) {
                RoadPaint x = new RoadPaint();
                x.dash(lane, 0, 3);
                check.due("to the higher lane", x.mayChange(lane, lane + 1, 0, way), 1);
                check.due("to the lower lane", x.mayChange(lane + 1, lane, 0, way), 0);
                x.arrow(lane + 1, 0, against(way));
                check.due("to a higher lane that is not free", x.mayChange(lane, lane + 1, 0, way), 0);
            }
        }
    }

    private static void gonePaint() {
        check.sentence("there is no arrow, or the dash 0 then (a driver may change)");
        RoadPaint x = new RoadPaint();
        x.dash(0, 3, 1);
        x.arrow(1, 4, 1);
        x.pass(19);
        check.due("over a dash of 5", x.mayChange(0, 1, 3, UP), 0);
        check.due("to an arrow of 5", x.mayChange(0, 1, 4, UP), 0);
        x.pass(1);
        check.due("over a dash that is gone", x.mayChange(0, 1, 3, UP), 1);
        check.due("to an arrow that is gone", x.mayChange(0, 1, 4, UP), 1);
    }

    private static void emptyRoad() {
        check.sentence("without an arrow it is free for both (an empty road)");
        for (int way = 0; way < 2; way++) {
            for (int lane = 0; lane < 3; lane++) {
                check.due("no change", new RoadPaint().fewestChanges(way, lane), 0);
                RoadPaint x = new RoadPaint();
                paintLines(x, 1);
                for (int mile = 0; mile < 16; mile++) {
                    x.arrow(lane, mile, way);
                }
                check.due("no change between solid lines", x.fewestChanges(way, lane), 0);
                check.due("not against the arrows", x.fewestChanges(against(way), lane), NONE);
            }
        }
    }

    private static void freeAtTheFirstMile() {
        check.sentence("the lane at which the driver begins has to be free at the first mile, too");
        for (int way = 0; way < 2; way++) {
            for (int lane = 0; lane < 3; lane++) {
                RoadPaint x = new RoadPaint();
                x.arrow(lane, mileOf(way, 0), against(way));
                for (int start = 0; start < 3; start++) {
                    check.due("from " + start, x.fewestChanges(way, start), start == lane ? NONE : 0);
                }
                RoadPaint y = new RoadPaint();
                y.arrow(lane, mileOf(way, 1), against(way));
                check.due("a mile later", y.fewestChanges(way, lane), 1);
            }
        }
    }

    private static void freeAtTheLastMile() {
        check.sentence("up from the mile 0 to the mile 15, or down from 15 to 0 (the last mile)");
        for (int way = 0; way < 2; way++) {
            for (int lane = 0; lane < 3; lane++) {
                RoadPaint x = new RoadPaint();
                x.arrow(lane, mileOf(way, 15), against(way));
                check.due("from a lane that ends", x.fewestChanges(way, lane), 1);
                paintLines(x, 1);
                check.due("between solid lines", x.fewestChanges(way, lane), NONE);
                check.due("another lane", x.fewestChanges(way, (lane + 1) % 3), 0);
            }
        }
    }

    private static void freeAtEachMile() {
        check.sentence("always in a lane that is free for this way at each mile");
        for (int way = 0; way < 2; way++) {
            for (int far = 0; far < 16; far++) {
                RoadPaint x = new RoadPaint();
                x.arrow(1, mileOf(way, far), against(way));
                check.due("with changes", x.fewestChanges(way, 1), far == 0 ? NONE : 1);
                check.due("the other way", x.fewestChanges(against(way), 1), 0);
                paintLines(x, 1);
                check.due("without changes", x.fewestChanges(way, 1), NONE);
                x.arrow(1, mileOf(way, far), 2);
                check.due("past an arrow both ways", x.fewestChanges(way, 1), 0);
            }
        }
    }

    private static void wholeRoadUpAndDown() {
        check.sentence("up from the mile 0 to the mile 15, or down from 15 to 0");
        RoadPaint x = new RoadPaint();
        paintLines(x, 1);
        x.dash(0, 3, 0);
        x.arrow(0, 9, 1);
        x.arrow(0, 13, 1);
        check.due("up, the change is ahead of it", x.fewestChanges(UP, 0), 1);
        check.due("down, along it", x.fewestChanges(DOWN, 0), 0);
        RoadPaint y = new RoadPaint();
        paintLines(y, 1);
        y.dash(0, 3, 0);
        y.arrow(0, 9, 0);
        check.due("down, the change is behind it", y.fewestChanges(DOWN, 0), NONE);
        y.dash(0, 12, 0);
        check.due("down, the change is ahead of it", y.fewestChanges(DOWN, 0), 1);
    }

    private static void changeAheadOfTheNextMile() {
        check.sentence("the driver changes at a mile, as mayChange() tells, before going on to the next mile");
        for (int way = 0; way < 2; way++) {
            for (int far = 1; far < 16; far++) {
                RoadPaint x = new RoadPaint();
                paintLines(x, 1);
                x.arrow(1, mileOf(way, far), against(way));
                x.dash(0, mileOf(way, far), 0);
                check.due("a change at the mile that is not free", x.fewestChanges(way, 1), NONE);
                x.dash(0, mileOf(way, far), 1);
                x.dash(0, mileOf(way, far - 1), 0);
                check.due("a change at the mile ahead of it", x.fewestChanges(way, 1), 1);
            }
        }
    }

    private static void changeAtTheFirstMile() {
        check.sentence("changes at a mile (the first one)");
        for (int way = 0; way < 2; way++) {
            RoadPaint x = new RoadPaint();
            paintLines(x, 1);
            x.arrow(2, mileOf(way, 1), against(way));
            x.dash(1, mileOf(way, 0), 2);
            check.due("at the first mile", x.fewestChanges(way, 2), 1);
            x.arrow(1, mileOf(way, 0), against(way));
            check.due("to a lane that is not free there", x.fewestChanges(way, 2), NONE);
        }
    }

    private static void changeAtTheLastMile() {
        check.sentence("changes at a mile (the last one does not help)");
        for (int way = 0; way < 2; way++) {
            RoadPaint x = new RoadPaint();
            paintLines(x, 1);
            x.arrow(1, mileOf(way, 15), against(way));
            x.dash(0, mileOf(way, 15), 0);
            x.dash(1, mileOf(way, 15), 0);
            check.due("too late", x.fewestChanges(way, 1), NONE);
            x.dash(1, mileOf(way, 14), 0);
            check.due("just in time", x.fewestChanges(way, 1), 1);
        }
    }

    private static void severalChangesAtOneMile() {
        check.sentence("several changes at one mile are possible");
        for (int way = 0; way < 2; way++) {
            for (int far = 0; far < 15; far++) {
                for (int start = 0; start < 3; start += 2) {
                    RoadPaint x = new RoadPaint();
                    paintLines(x, 1);
                    x.dash(0, mileOf(way, far), 0);
                    x.dash(1, mileOf(way, far), 2);
                    x.arrow(start, mileOf(way, far + 1), against(way));
                    x.arrow(1, mileOf(way, far + 1), against(way));
                    check.due("two changes from " + start, x.fewestChanges(way, start), 2);
                    check.due("one change", x.fewestChanges(way, 1), 1);
                    check.due("none", x.fewestChanges(way, 2 - start), 0);
                }
            }
        }
    }

    private static void changesAsMayChangeTells() {
        check.sentence("as mayChange() tells");
        for (int way = 0; way < 2; way++) {
            for (int dash = 0; dash < 4; dash++) {
                RoadPaint x = new RoadPaint();
                paintLines(x, dash);
                x.arrow(1, mileOf(way, 10), against(way));
                int toHigher = dash == 1 ? NONE : 1;
                check.due("to any side over " + dash, x.fewestChanges(way, 1), toHigher);
                RoadPaint y = new RoadPaint();
                paintLines(y, dash);
                y.arrow(2, mileOf(way, 10), against(way));
                check.due("to the lower lane over " + dash, y.fewestChanges(way, 2), dash % 2 == 1 ? NONE : 1);
                RoadPaint z = new RoadPaint();
                paintLines(z, dash);
                z.arrow(0, mileOf(way, 10), against(way));
                z.arrow(1, mileOf(way, 10), against(way));
                check.due("two to higher lanes over " + dash, z.fewestChanges(way, 0), dash == 1 ? NONE : 2);
            }
        }
    }

    private static void laneBetweenIsNotFree() {
        check.sentence("from one lane to another one the driver changes as mayChange() tells (over the lane 1)");
        for (int way = 0; way < 2; way++) {
            RoadPaint x = new RoadPaint();
            for (int far = 0; far < 9; far++) {
                x.arrow(1, mileOf(way, far), against(way));
            }
            x.arrow(0, mileOf(way, 8), against(way));
            check.due("the lane 1 is not free", x.fewestChanges(way, 0), NONE);
            x.erase(1, mileOf(way, 7));
            check.due("it is free at the mile ahead", x.fewestChanges(way, 0), 2);
            x.dash(1, mileOf(way, 7), 1);
            check.due("not over a solid line", x.fewestChanges(way, 0), NONE);
        }
    }

    private static void whicheverLaneAtTheEnd() {
        check.sentence("Returns the number of changes, to whichever lane at the end");
        for (int way = 0; way < 2; way++) {
            for (int end = 0; end < 3; end++) {
                RoadPaint x = new RoadPaint();
                for (int lane = 0; lane < 3; lane++) {
                    if (lane != end) {
                        x.arrow(lane, mileOf(way, 15), against(way));
                    }
                }
                for (int start = 0; start < 3; start++) {
                    check.due(start + " to " + end, x.fewestChanges(way, start), Math.abs(start - end));
                }
            }
        }
    }

    private static void fewestOfSeveral() {
        check.sentence("Finds the fewest changes of lanes");
        RoadPaint x = new RoadPaint();
        x.arrow(1, 3, 1);
        x.arrow(0, 9, 1);
        check.due("not to the lane 0, from which one must change again", x.fewestChanges(UP, 1), 1);
        x.dash(1, 0, 1);
        x.dash(1, 1, 1);
        x.dash(1, 2, 1);
        check.due("by the lane 0", x.fewestChanges(UP, 1), 2);
        x.arrow(2, 14, 1);
        check.due("there and back, either way", x.fewestChanges(UP, 1), 2);
        check.due("from the lane 2", x.fewestChanges(UP, 2), 1);
        check.due("down", x.fewestChanges(DOWN, 1), 0);
    }

    private static void mostChanges() {
        check.sentence("the fewest changes of lanes with which a driver could go along the whole road (the most)");
        for (int way = 0; way < 2; way++) {
            RoadPaint x = new RoadPaint();
            for (int far = 1; far < 16; far += 2) {
                x.arrow(1, mileOf(way, far), against(way));
                x.arrow(far % 4 == 1 ? 0 : 2, mileOf(way, far), against(way));
            }
            check.due("from the lane 0", x.fewestChanges(way, 0), 16);
            check.due("from the lane 1", x.fewestChanges(way, 1), 15);
            check.due("from the lane 2", x.fewestChanges(way, 2), 14);
            x.arrow(1, mileOf(way, 14), against(way));
            check.due("the last one cannot be done", x.fewestChanges(way, 0), NONE);
        }
    }

    private static void cannotBeDone() {
        check.sentence("NONE if it cannot be done");
        for (int way = 0; way < 2; way++) {
            for (int far = 0; far < 16; far++) {
                RoadPaint x = new RoadPaint();
                for (int lane = 0; lane < 3; lane++) {
                    x.arrow(lane, mileOf(way, far), against(way));
                }
                for (int lane = 0; lane < 3; lane++) {
                    check.due("no lane is free at " + far, x.fewestChanges(way, lane), NONE);
                    check.due("the other way", x.fewestChanges(against(way), lane), 0);
                }
            }
        }
    }
}
