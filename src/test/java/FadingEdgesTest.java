/** The edges of strength, of traffic, and of the days that pass; promises 7, 9, 14 and 16. */
public final class FadingEdgesTest {
    private static final int NONE = RoadPaint.NONE;
    private static final Check check = new Check("FadingEdgesTest");

    public static void main(String[] args) {
        strengthWhenPainted();
        strengthZero();
        strengthOne();
        neverBelowZero();
        readableAtTheSetting();
        settingsOfReading();
        firstTraffic();
        trafficOfEachLane();
        leastAndMostTraffic();
        halfForSlowAndStop();
        halfRoundedDown();
        readAheadOfTheLoss();
        halfInTheCellAlone();
        dashesBetweenLanes();
        dashesRoundedDown();
        oneDayAfterTheOther();
        signsGoneByIt();
        daysSoFar();
        readableForNone();
        readableForDays();
        readableAsDaysPass();
        readableForMoreThan300();
        check.end();
    }

    private static void allTraffic(RoadPaint x, int traffic) {
        for (int lane = 0; lane < 3; lane++) {
            x.traffic(lane, traffic);
        }
    }

    private static void strengthWhenPainted() {
        check.sentence("each has a strength, 100 when it is set or painted");
        RoadPaint x = new RoadPaint();
        x.arrow(0, 0, 0);
        x.word(2, 15, 3);
        x.dash(1, 15, 3);
        check.due("arrow", x.cell(0, 0, 1), 100);
        check.due("word", x.cell(2, 15, 3), 100);
        check.due("dash", x.line(1, 15, 1), 100);
        check.due("nothing else", x.total(9), 300);
    }

    private static void strengthZero() {
        check.sentence("A sign whose strength becomes 0 is gone: there is no arrow, no word, or the dash 0 then");
        RoadPaint x = new RoadPaint();
        allTraffic(x, 20);
        x.arrow(1, 3, 1);
        x.word(2, 3, 2);
        x.dash(0, 3, 1);
        check.due("five times 20", x.pass(5), 3);
        check.due("arrow", x.cell(1, 3, 0), NONE);
        check.due("free", x.cell(1, 3, 5), 1);
        check.due("word", x.cell(2, 3, 2), NONE);
        check.due("dash", x.line(0, 3, 0), 0);
        check.due("a driver may change", x.mayChange(0, 1, 3, 0), 1);
        check.due("arrows", x.total(0), 0);
        check.due("words", x.total(1), 0);
        check.due("dashes", x.total(2), 0);
        check.due("no arrow to meet", x.whyNot(1, 2, 0), 0);
        check.due("no arrow beside", x.whyNot(0, 3, 0), 0);
        check.due("nothing to erase", x.erase(1, 3), 0);
        check.due("no dash before", x.dash(0, 3, 2), 0);
        check.due("nothing to repaint", x.night(3, 3), 0);
    }

    private static void strengthOne() {
        check.sentence("A sign whose strength becomes 0 is gone (with a strength of 1 it is there)");
        RoadPaint x = new RoadPaint();
        allTraffic(x, 9);
        x.arrow(1, 3, 1);
        x.word(2, 3, 2);
        x.dash(0, 3, 1);
        check.due("eleven times 9", x.pass(11), 0);
        check.due("the sum of strengths", x.total(9), 3);
        check.due("arrow", x.cell(1, 3, 0), 1);
        check.due("not free", x.cell(1, 3, 5), 0);
        check.due("word", x.cell(2, 3, 2), 2);
        check.due("dash", x.line(0, 3, 0), 1);
        check.due("no driver may change", x.mayChange(1, 0, 3, 0), 0);
        check.due("arrows", x.total(0), 1);
        check.due("words", x.total(1), 1);
        check.due("dashes", x.total(2), 1);
        check.due("an arrow to meet", x.whyNot(1, 2, 0), 1);
        allTraffic(x, 1);
        check.due("all are gone", x.pass(1), 3);
    }

    private static void neverBelowZero() {
        check.sentence("Nothing falls below 0");
        RoadPaint x = new RoadPaint();
        allTraffic(x, 19);
        x.arrow(1, 3, 1);
        x.word(2, 3, 2);
        x.dash(0, 3, 1);
        check.due("5 are left", x.pass(5), 0);
        check.due("less than is lost", x.pass(1), 3);
        check.due("arrow", x.cell(1, 3, 1), 0);
        check.due("word", x.cell(2, 3, 3), 0);
        check.due("dash", x.line(0, 3, 1), 0);
        check.due("the sum of strengths", x.total(9), 0);
        check.due("gone once", x.pass(30), 0);
        check.due("the sum of strengths", x.total(9), 0);
        x.word(2, 3, 2);
        check.due("painted anew", x.cell(2, 3, 3), 100);
    }

    private static void readableAtTheSetting() {
        check.sentence("A word can be read if its strength is at least the setting 0");
        for (int strength = 99; strength > 0; strength--) {
            RoadPaint x = Roads.wordOfStrength(strength);
            check.due("strength", x.cell(1, 6, 3), strength);
            x.set(0, strength);
            check.due("as strong as the setting", x.cell(1, 6, 4), 1);
            check.due("words that can be read", x.total(3), 1);
            x.set(0, strength + 1);
            check.due("weaker by 1", x.cell(1, 6, 4), 0);
            check.due("words that can be read", x.total(3), 0);
        }
    }

    private static void settingsOfReading() {
        check.sentence("0: the strength that can be read, 1 to 100, at first 30");
        check.due("at first, 30", Roads.wordOfStrength(30).cell(1, 6, 4), 1);
        check.due("at first, 29", Roads.wordOfStrength(29).cell(1, 6, 4), 0);
        RoadPaint x = new RoadPaint();
        check.due("the highest", x.set(0, 100), 30);
        x.word(0, 0, 0);
        check.due("a fresh word", x.cell(0, 0, 4), 1);
        check.due("words that can be read", x.total(3), 1);
        x.traffic(0, 2);
        x.pass(1);
        check.due("after a day", x.cell(0, 0, 4), 0);
        check.due("words that can be read", x.total(3), 0);
        check.due("the lowest", x.set(0, 1), 100);
        check.due("a word", x.cell(0, 0, 4), 1);
        check.due("no word", x.cell(0, 1, 4), 0);
        check.due("words that can be read", x.total(3), 1);
        check.due("a refused value", x.set(0, 0), RoadPaint.BAD_VALUE);
        check.due("a refused value", x.set(0, 101), RoadPaint.BAD_VALUE);
        check.due("the setting stays", x.total(13), 1);
    }

    private static void firstTraffic() {
        check.sentence("Each lane has a traffic, 0 to 20, at first 5");
        for (int lane = 0; lane < 3; lane++) {
            RoadPaint x = new RoadPaint();
            x.word(lane, 0, 2);
            x.pass(1);
            check.due("a day", x.cell(lane, 0, 3), 95);
            check.due("total", x.total(10 + lane), 5);
            check.due("more", x.traffic(lane, 20), 5);
            check.due("less", x.traffic(lane, 0), 20);
            check.due("too much", x.traffic(lane, 21), RoadPaint.BAD_VALUE);
            check.due("too little", x.traffic(lane, -1), RoadPaint.BAD_VALUE);
            check.due("total", x.total(10 + lane), 0);
        }
    }

    private static void trafficOfEachLane() {
        check.sentence("each word and each arrow of a lane loses the traffic of its lane");
        RoadPaint x = new RoadPaint();
        x.traffic(0, 3);
        x.traffic(1, 10);
        x.traffic(2, 17);
        for (int mile = 0; mile < 16; mile++) {
            for (int lane = 0; lane < 3; lane++) {
                x.word(lane, mile, 2 + mile % 2);
                x.arrow(lane, mile, 0);
            }
        }
        x.pass(1);
        int[] due = {97, 90, 83};
        for (int mile = 0; mile < 16; mile++) {
            for (int lane = 0; lane < 3; lane++) {
                check.due("word of the lane " + lane, x.cell(lane, mile, 3), due[lane]);
                check.due("arrow of the lane " + lane, x.cell(lane, mile, 1), due[lane]);
            }
        }
    }

    private static void leastAndMostTraffic() {
        check.sentence("traffic: 0 to 20");
        RoadPaint x = new RoadPaint();
        x.traffic(0, 0);
        x.traffic(1, 0);
        x.traffic(2, 20);
        x.word(0, 0, 3);
        x.arrow(0, 0, 2);
        x.dash(0, 0, 1);
        x.word(2, 0, 3);
        check.due("30 days, one sign", x.pass(30), 1);
        check.due("word without traffic", x.cell(0, 0, 3), 100);
        check.due("arrow without traffic", x.cell(0, 0, 1), 100);
        check.due("dash without traffic", x.line(0, 0, 1), 100);
        x.word(2, 0, 3);
        x.pass(1);
        check.due("word with most traffic", x.cell(2, 0, 3), 80);
    }

    private static void halfForSlowAndStop() {
        check.sentence("in a cell with the word SLOW or STOP that can be read, both lose only half of it");
        int[] due = {90, 90, 80, 80};
        for (int word = 0; word < 4; word++) {
            for (int mile = 0; mile < 16; mile += 15) {
                for (int lane = 0; lane < 3; lane++) {
                    RoadPaint x = new RoadPaint();
                    x.traffic(lane, 20);
                    x.word(lane, mile, word);
                    x.arrow(lane, mile, 1);
                    x.pass(1);
                    check.due("the word " + word, x.cell(lane, mile, 3), due[word]);
                    check.due("the arrow with the word " + word, x.cell(lane, mile, 1), due[word]);
                }
            }
        }
    }

    private static void halfRoundedDown() {
        check.sentence("both lose only half of it, rounded down");
        for (int traffic = 0; traffic <= 20; traffic++) {
            RoadPaint x = new RoadPaint();
            x.traffic(1, traffic);
            x.word(1, 1, 1);
            x.arrow(1, 1, 1);
            x.pass(1);
            check.due("STOP with the traffic " + traffic, x.cell(1, 1, 3), 100 - traffic / 2);
            check.due("its arrow", x.cell(1, 1, 1), 100 - traffic / 2);
            x.pass(2);
            check.due("each day is rounded, the word", x.cell(1, 1, 3), 100 - 3 * (traffic / 2));
            check.due("each day is rounded, the arrow", x.cell(1, 1, 1), 100 - 3 * (traffic / 2));
        }
    }

    private static void readAheadOfTheLoss() {
        check.sentence("that can be read (ahead of the loss)");
        for (int cell = 0; cell < 48; cell++) {
            int lane = cell / 16;
            int mile = cell % 16;
            RoadPaint x = new RoadPaint();
            x.traffic(lane, 20);
            x.word(lane, mile, cell % 2);
            x.arrow(lane, mile, 0);
            int[] settings = {100, 100, 71, 50};
            int[] due = {90, 70, 50, 40};
            for (int day = 0; day < 4; day++) {
                x.set(0, settings[day]);
                x.pass(1);
                check.due("cell " + cell + ", day " + day + ", the word", x.cell(lane, mile, 3), due[day]);
                check.due("cell " + cell + ", day " + day + ", the arrow", x.cell(lane, mile, 1), due[day]);
            }
        }
        RoadPaint y = new RoadPaint();
        y.traffic(0, 9);
        y.set(0, 1);
        y.word(0, 0, 1);
        y.pass(24);
        check.due("4 are left", y.cell(0, 0, 3), 4);
        y.arrow(0, 0, 0);
        check.due("the word goes", y.pass(1), 1);
        check.due("but was read ahead of it", y.cell(0, 0, 1), 96);
        y.pass(1);
        check.due("then there is no word", y.cell(0, 0, 1), 87);
    }

    private static void halfInTheCellAlone() {
        check.sentence("in a cell with the word SLOW or STOP");
        RoadPaint x = new RoadPaint();
        allTraffic(x, 20);
        x.word(1, 7, 0);
        for (int mile = 6; mile < 9; mile++) {
            for (int lane = 0; lane < 3; lane++) {
                x.arrow(lane, mile, 1);
            }
        }
        x.dash(0, 7, 1);
        x.dash(1, 7, 1);
        x.pass(1);
        for (int mile = 6; mile < 9; mile++) {
            for (int lane = 0; lane < 3; lane++) {
                int due = lane == 1 && mile == 7 ? 90 : 80;
                check.due("arrow " + lane + " " + mile, x.cell(lane, mile, 1), due);
            }
        }
        check.due("the dash of the line 0", x.line(0, 7, 1), 80);
        check.due("the dash of the line 1", x.line(1, 7, 1), 80);
    }

    private static void dashesBetweenLanes() {
        check.sentence("Each dash loses half of the sum of the traffic of both lanes beside it");
        RoadPaint x = new RoadPaint();
        x.traffic(0, 2);
        x.traffic(1, 8);
        x.traffic(2, 20);
        for (int mile = 0; mile < 16; mile++) {
            x.dash(0, mile, 1 + mile % 3);
            x.dash(1, mile, 1 + mile % 3);
        }
        x.pass(1);
        for (int mile = 0; mile < 16; mile++) {
            check.due("the line 0 at " + mile, x.line(0, mile, 1), 95);
            check.due("the line 1 at " + mile, x.line(1, mile, 1), 86);
        }
    }

    private static void dashesRoundedDown() {
        check.sentence("half of the sum of the traffic of both lanes beside it, rounded down");
        for (int one = 0; one <= 20; one++) {
            for (int other = 0; other <= 20; other++) {
                RoadPaint x = new RoadPaint();
                x.traffic(0, one);
                x.traffic(1, other);
                x.traffic(2, one);
                x.dash(0, 0, 1);
                x.dash(1, 0, 1);
                x.pass(1);
                check.due("line 0, " + one + " and " + other, x.line(0, 0, 1), 100 - (one + other) / 2);
                check.due("line 1, " + one + " and " + other, x.line(1, 0, 1), 100 - (one + other) / 2);
            }
        }
    }

    private static RoadPaint withWordsThatFade() {
        RoadPaint x = new RoadPaint();
        for (int lane = 0; lane < 3; lane++) {
            x.traffic(lane, 5 + 6 * lane);
            for (int word = 0; word < 4; word++) {
                x.word(lane, word, word);
                x.arrow(lane, word, 0);
            }
        }
        x.dash(0, 0, 1);
        x.dash(1, 0, 1);
        x.set(0, 70);
        return x;
    }

    private static void oneDayAfterTheOther() {
        check.sentence("Lets days pass, one after the other; days: 1 to 30");
        for (int days = 1; days <= 30; days++) {
            RoadPaint x = withWordsThatFade();
            RoadPaint y = withWordsThatFade();
            int gone = 0;
            for (int day = 0; day < days; day++) {
                gone += y.pass(1);
            }
            check.due("gone in " + days + " days", x.pass(days), gone);
            check.allDue("after " + days + " days", Roads.picture(x), Roads.picture(y));
        }
        RoadPaint z = new RoadPaint();
        check.due("none", z.pass(0), RoadPaint.BAD_VALUE);
        check.due("31", z.pass(31), RoadPaint.BAD_VALUE);
        check.due("days", z.total(5), 0);
    }

    private static void signsGoneByIt() {
        check.sentence("Returns the number of signs that are gone by it; the signs that are gone by days so far");
        RoadPaint x = new RoadPaint();
        allTraffic(x, 20);
        for (int i = 0; i < 48; i++) {
            x.word(i % 3, i / 3, 3);
            x.arrow(i % 3, i / 3, 1);
        }
        for (int i = 0; i < 32; i++) {
            x.dash(i % 2, i / 2, 3);
        }
        check.due("none", x.pass(4), 0);
        check.due("so far", x.total(8), 0);
        check.due("all", x.pass(1), 128);
        check.due("so far", x.total(8), 128);
        check.due("none is left", x.pass(30), 0);
        x.word(0, 0, 2);
        check.due("one more, days after it is gone", x.pass(30), 1);
        check.due("so far", x.total(8), 129);
        x.word(0, 0, 2);
        x.arrow(0, 0, 2);
        x.erase(0, 0);
        x.dash(0, 0, 2);
        x.dash(0, 0, 0);
        check.due("removed, not gone by days", x.total(8), 129);
    }

    private static void daysSoFar() {
        check.sentence("5 for the days so far");
        RoadPaint x = new RoadPaint();
        int days = 0;
        for (int i = 0; i < 505; i++) {
            x.pass(1 + i % 30);
            days += 1 + i % 30;
        }
        check.due("505 calls", x.total(5), days);
        Check.write(x, "d;d");
        x.carryOut();
        check.due("the days of orders count", x.total(5), days + 2);
    }

    private static void readableForNone() {
        check.sentence("0 if it cannot be read now; NONE if there is no word");
        RoadPaint x = new RoadPaint();
        check.due("no word", x.readableFor(2, 15), NONE);
        x.arrow(2, 15, 0);
        check.due("an arrow alone", x.readableFor(2, 15), NONE);
        RoadPaint y = Roads.wordOfStrength(30);
        check.due("it can just be read", y.readableFor(1, 6), 1);
        y.set(0, 31);
        check.due("it can not be read", y.readableFor(1, 6), 0);
        y.traffic(1, 0);
        check.due("it can not be read, and stays so", y.readableFor(1, 6), 0);
        y.set(0, 30);
        check.due("it can be read for ever", y.readableFor(1, 6), NONE);
        y.traffic(1, 15);
        y.pass(1);
        check.due("not read, there", y.readableFor(1, 6), 0);
        y.pass(1);
        check.due("gone", y.readableFor(1, 6), NONE);
        y.word(1, 6, 2);
        y.erase(1, 6);
        check.due("erased", y.readableFor(1, 6), NONE);
    }

    private static void readableForDays() {
        check.sentence("in how many days a word cannot be read any more");
        for (int strength = 25; strength <= 45; strength++) {
            RoadPaint x = Roads.wordOfStrength(strength);
            x.traffic(1, 5);
            int due = strength < 30 ? 0 : strength < 35 ? 1 : strength < 40 ? 2 : strength < 45 ? 3 : 4;
            check.due("BUS of " + strength, x.readableFor(1, 6), due);
        }
        RoadPaint y = new RoadPaint();
        y.set(0, 100);
        y.word(0, 0, 3);
        check.due("the highest setting", y.readableFor(0, 0), 1);
        y.set(0, 1);
        y.traffic(0, 20);
        check.due("the lowest setting, most traffic", y.readableFor(0, 0), 5);
        y.traffic(0, 1);
        check.due("the lowest setting, least traffic", y.readableFor(0, 0), 100);
    }

    private static void readableAsDaysPass() {
        check.sentence("if nothing else is done");
        for (int setting : new int[] {1, 2, 30, 99, 100}) {
            for (int traffic : new int[] {2, 3, 5, 19, 20}) {
                for (int word = 0; word < 4; word++) {
                    RoadPaint x = new RoadPaint();
                    x.traffic(0, traffic);
                    x.set(0, setting);
                    x.word(0, 15, word);
                    int predicted = x.readableFor(0, 15);
                    for (int day = 0; day < predicted; day++) {
                        check.due("after " + day + " of " + predicted + " days", x.cell(0, 15, 4), 1);
                        x.pass(1);
                    }
                    check.due("after " + predicted + " days", x.cell(0, 15, 4), 0);
                }
            }
        }
    }

    private static void readableForMoreThan300() {
        check.sentence("NONE if it can be read for more than 300 days");
        for (int word = 0; word < 4; word++) {
            RoadPaint x = new RoadPaint();
            x.traffic(0, 0);
            x.word(0, 0, word);
            check.due("no traffic, the word " + word, x.readableFor(0, 0), NONE);
            x.traffic(0, 1);
            check.due("the least traffic, the word " + word, x.readableFor(0, 0), word < 2 ? NONE : 71);
            x.traffic(0, 2);
            check.due("twice as much, the word " + word, x.readableFor(0, 0), word < 2 ? 71 : 36);
        }
        RoadPaint y = new RoadPaint();
        y.set(0, 100);
        y.traffic(0, 1);
        y.word(0, 0, 0);
        check.due("at the highest setting", y.readableFor(0, 0), NONE);
        for (int i = 0; i < 11; i++) {
            y.pass(30);
        }
        check.due("330 days later", y.cell(0, 0, 4), 1);
    }
}
