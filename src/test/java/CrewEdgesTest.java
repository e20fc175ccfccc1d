/** The edges of cans, nights and their settings; promises 6, 8, 10, 14 and 17. */
public final class CrewEdgesTest {
    private static final int NONE = RoadPaint.NONE;
    private static final int LIMIT = RoadPaint.LIMIT;
    private static final int NOT_POSSIBLE = RoadPaint.NOT_POSSIBLE;
    private static final Check check = new Check("CrewEdgesTest");

    public static void main(String[] args) {
        cansOfANewRoad();
        cansThatAreBrought();
        atMost99Cans();
        bothMilesIncluded();
        oneMile();
        towardsLowerMiles();
        wholeRoad();
        weakerThan60();
        wordsArrowsDashes();
        eachTakesACan();
        nothingToRepaint();
        noCansLeft();
        asManyCansAsSigns();
        signsOfACrew();
        signsInThisNight();
        settingOfSigns();
        previousSettings();
        nightsAndSignsSoFar();
        bestNightOfMostSigns();
        bestNightOfAllSorts();
        bestNightOfOneMile();
        bestNightWeakerThan60();
        bestNightWithCansAndSetting();
        bestNightOfFewestMiles();
        bestNightThatBeginsLowest();
        bestNightOfNone();
        check.end();
    }

    private static void cansOfANewRoad() {
        check.sentence("There are paint cans, 0 to 99, at first 20");
        RoadPaint x = new RoadPaint();
        check.due("at first", x.total(4), 20);
        check.due("up to 99", x.bring(79), 99);
        RoadPaint y = Roads.withoutCans();
        check.due("down to 0", y.total(4), 0);
        check.due("0 and 99", y.bring(99), 99);
        check.due("cans", y.total(4), 99);
    }

    private static void cansThatAreBrought() {
        check.sentence("cans: 1 to 99; returns the number of cans then");
        RoadPaint x = new RoadPaint();
        check.due("none", x.bring(0), RoadPaint.BAD_VALUE);
        check.due("one", x.bring(1), 21);
        check.due("another one", x.bring(1), 22);
        check.due("cans", x.total(4), 22);
        check.due("100", x.bring(100), RoadPaint.BAD_VALUE);
        RoadPaint y = Roads.withoutCans();
        check.due("one to none", y.bring(1), 1);
        check.due("98 to one", y.bring(98), 99);
    }

    private static void atMost99Cans() {
        check.sentence("LIMIT if there would be more than 99");
        for (int cans = 1; cans < 100; cans++) {
            RoadPaint x = new RoadPaint();
            check.due(cans + " to 20", x.bring(cans), cans < 80 ? 20 + cans : LIMIT);
            check.due("cans", x.total(4), cans < 80 ? 20 + cans : 20);
        }
        RoadPaint y = new RoadPaint();
        y.bring(79);
        check.due("one to 99", y.bring(1), LIMIT);
        check.due("99 to 99", y.bring(99), LIMIT);
        check.due("cans", y.total(4), 99);
    }

    private static RoadPaint allFaded() {
        return Roads.faded(0, 1, 2, 3, 4, 5, 6, 7, 8, 9, 10, 11, 12, 13, 14, 15);
    }

    /** Just the miles from the lower to the higher one are repainted. */
    private static void repainted(RoadPaint x, int lower, int higher) {
        for (int mile = 0; mile < 16; mile++) {
            boolean within = mile >= lower && mile <= higher;
            check.due("mile " + mile + " of " + lower + " to " + higher, x.cell(2, mile, 3), within ? 100 : 40);
        }
    }

    private static void bothMilesIncluded() {
        check.sentence("works along the miles from one mile to another one, both included");
        for (int from = 0; from < 16; from++) {
            for (int to = 0; to < 16; to++) {
                RoadPaint x = allFaded();
                x.set(1, 40);
                check.due(from + " to " + to, x.night(from, to), Math.abs(from - to) + 1);
                repainted(x, Math.min(from, to), Math.max(from, to));
            }
        }
    }

    private static void oneMile() {
        check.sentence("from: the mile at which it begins; to: the mile at which it ends (the same one)");
        for (int mile = 0; mile < 16; mile++) {
            RoadPaint x = allFaded();
            check.due("a mile", x.night(mile, mile), 1);
            repainted(x, mile, mile);
        }
    }

    private static void towardsLowerMiles() {
        check.sentence("mile by mile in that order; possibly a lower one");
        for (int limit = 1; limit <= 6; limit++) {
            RoadPaint x = allFaded();
            x.set(1, limit);
            check.due("upwards", x.night(5, 10), limit);
            repainted(x, 5, 4 + limit);
            RoadPaint y = allFaded();
            y.set(1, limit);
            check.due("downwards", y.night(10, 5), limit);
            repainted(y, 11 - limit, 10);
        }
    }

    private static void wholeRoad() {
        check.sentence("from one mile to another one (the first and the last one)");
        RoadPaint x = allFaded();
        x.set(1, 15);
        check.due("upwards", x.night(0, 15), 15);
        repainted(x, 0, 14);
        RoadPaint y = allFaded();
        y.set(1, 15);
        check.due("downwards", y.night(15, 0), 15);
        repainted(y, 1, 15);
    }

    private static void weakerThan60() {
        check.sentence("it repaints signs whose strength is less than 60");
        for (int strength = 1; strength < 100; strength++) {
            RoadPaint x = Roads.wordOfStrength(strength);
            check.due("BUS of " + strength, x.night(6, 6), strength < 60 ? 1 : 0);
            check.due("its strength", x.cell(1, 6, 3), strength < 60 ? 100 : strength);
        }
        for (int day = 0; day < 5; day++) {
            RoadPaint y = new RoadPaint();
            y.arrow(1, 6, 1);
            y.dash(0, 6, 3);
            y.traffic(0, 20);
            y.traffic(1, 20);
            y.pass(2);
            y.traffic(0, day % 2);
            y.traffic(1, day / 2);
            y.pass(1);
            int arrow = 60 - day / 2;
            int dash = 60 - (day % 2 + day / 2) / 2;
            int due = (arrow < 60 ? 1 : 0) + (dash < 60 ? 1 : 0);
            check.due("arrow of " + arrow + ", dash of " + dash, y.night(6, 6), due);
            check.due("the arrow", y.cell(1, 6, 1), arrow < 60 ? 100 : 60);
            check.due("the dash", y.line(0, 6, 1), dash < 60 ? 100 : 60);
        }
    }

    /** A mile with all signs, and a word at the next one, all of the strength 55. */
    private static RoadPaint fullMile() {
        RoadPaint x = new RoadPaint();
        for (int lane = 0; lane < 3; lane++) {
            x.traffic(lane, 15);
            x.word(lane, 7, 3);
            x.arrow(lane, 7, 1);
        }
        x.dash(0, 7, 1);
        x.dash(1, 7, 3);
        x.word(0, 8, 3);
        x.pass(3);
        return x;
    }

    private static void wordsArrowsDashes() {
        check.sentence("first the words of the lanes 0 to 2, then their arrows, then the dashes of the lines 0 and 1");
        for (int limit = 1; limit <= 9; limit++) {
            RoadPaint x = fullMile();
            x.set(1, limit);
            check.due("signs", x.night(7, 8), limit);
            int[] seen = {x.cell(0, 7, 3), x.cell(1, 7, 3), x.cell(2, 7, 3), x.cell(0, 7, 1), x.cell(1, 7, 1),
                x.cell(2, 7, 1), x.line(0, 7, 1), x.line(1, 7, 1), x.cell(0, 8, 3)};
            for (int i = 0; i < seen.length; i++) {
                check.due("limit " + limit + ", sign " + i, seen[i], i < limit ? 100 : 55);
            }
        }
    }

    private static void eachTakesACan() {
        check.sentence("Each takes a can, and has the strength 100 then");
        RoadPaint x = fullMile();
        check.due("signs", x.night(8, 7), 9);
        check.due("cans", x.total(4), 11);
        check.due("the sum of strengths", x.total(9), 900);
        for (int lane = 0; lane < 3; lane++) {
            check.due("the word stays what it is", x.cell(lane, 7, 2), 3);
            check.due("the arrow too", x.cell(lane, 7, 0), 1);
        }
        check.due("the dash too", x.line(0, 7, 0), 1);
        check.due("the other dash too", x.line(1, 7, 0), 3);
        check.due("again", x.night(8, 7), 0);
        check.due("no can is taken", x.total(4), 11);
    }

    private static void nothingToRepaint() {
        check.sentence("night: Returns the number of signs that are repainted");
        RoadPaint x = new RoadPaint();
        check.due("an empty road", x.night(0, 15), 0);
        x.word(0, 0, 0);
        check.due("a fresh word", x.night(0, 15), 0);
        check.due("cans", x.total(4), 20);
        RoadPaint y = Roads.faded(4, 6);
        check.due("between two words", y.night(5, 5), 0);
        check.due("both words", y.night(4, 6), 2);
    }

    /** A road with faded words in all lanes and so many cans. */
    private static RoadPaint withCans(int cans) {
        RoadPaint x = Roads.withoutCans();
        for (int mile = 12; mile < 16; mile++) {
            x.word(0, mile, 2);
            x.word(1, mile, 2);
        }
        x.pass(3);
        if (cans > 0) {
            x.bring(cans);
        }
        return x;
    }

    private static void noCansLeft() {
        check.sentence("The crew stops when there are no cans left");
        for (int cans = 1; cans <= 28; cans++) {
            RoadPaint x = withCans(cans);
            check.due("signs, cans " + cans, x.night(0, 15), cans);
            check.due("cans left", x.total(4), 0);
            check.due("without cans", x.night(0, 15), NOT_POSSIBLE);
            int painted = 0;
            for (int i = 0; i < 32; i++) {
                int strength = x.cell(i % 2, i / 2, 3);
                if (strength != 0) {
                    check.due("word " + i, strength, painted < cans ? 100 : 40);
                    painted++;
                }
            }
        }
    }

    private static void asManyCansAsSigns() {
        check.sentence("when there are no cans left, or when it has repainted as many signs as the setting 1 tells");
        int[][] cansSettingDue = {{5, 4, 4}, {5, 5, 5}, {5, 6, 5}, {1, 1, 1}, {1, 40, 1}, {28, 1, 1}, {40, 40, 28}};
        for (int[] row : cansSettingDue) {
            RoadPaint x = withCans(row[0]);
            x.set(1, row[1]);
            check.due(row[0] + " cans, the setting " + row[1], x.night(0, 15), row[2]);
            check.due("cans left", x.total(4), row[0] - row[2]);
        }
    }

    private static void signsOfACrew() {
        check.sentence("or when it has repainted as many signs in this night as the setting 1 tells");
        for (int setting = 1; setting <= 40; setting++) {
            RoadPaint x = new RoadPaint();
            for (int i = 0; i < 48; i++) {
                x.word(i % 3, i / 3, 2);
            }
            for (int lane = 0; lane < 3; lane++) {
                x.traffic(lane, 20);
            }
            x.pass(3);
            x.bring(79);
            x.set(1, setting);
            check.due("the setting " + setting, x.night(15, 0), setting);
            check.due("cans", x.total(4), 99 - setting);
        }
        RoadPaint y = allFaded();
        check.due("at first 12", y.night(0, 15), 12);
        repainted(y, 0, 11);
    }

    private static void signsInThisNight() {
        check.sentence("as many signs in this night");
        RoadPaint x = allFaded();
        x.set(1, 5);
        check.due("the first night", x.night(0, 15), 5);
        check.due("the second night", x.night(0, 15), 5);
        repainted(x, 0, 9);
        check.due("the third night", x.night(0, 15), 5);
        check.due("the fourth night", x.night(0, 15), 1);
        repainted(x, 0, 15);
    }

    private static void settingOfSigns() {
        check.sentence("1: the signs of a crew, 1 to 40, at first 12");
        RoadPaint x = new RoadPaint();
        check.due("at first", x.total(14), 12);
        check.due("the most", x.set(1, 40), 12);
        check.due("the least", x.set(1, 1), 40);
        check.due("too few", x.set(1, 0), RoadPaint.BAD_VALUE);
        check.due("too many", x.set(1, 41), RoadPaint.BAD_VALUE);
        check.due("it stays", x.total(14), 1);
        check.due("the other one stays", x.total(13), 30);
        check.due("41 is fine for the setting 0", x.set(0, 41), 30);
    }

    private static void previousSettings() {
        check.sentence("set, traffic: Returns the previous value, the previous traffic");
        RoadPaint x = new RoadPaint();
        check.due("at first", x.set(0, 7), 30);
        check.due("at first", x.set(1, 8), 12);
        check.due("then", x.set(0, 7), 7);
        check.due("then", x.set(1, 9), 8);
        check.due("lane 0", x.traffic(0, 1), 5);
        check.due("lane 1", x.traffic(1, 2), 5);
        check.due("lane 2", x.traffic(2, 3), 5);
        check.due("lane 0", x.traffic(0, 0), 1);
        check.due("lane 0", x.traffic(0, 4), 0);
        int[] totals = {0, 0, 0, 0, 20, 0, 0, 0, 0, 0, 4, 2, 3, 7, 9};
        check.allDue("totals", Roads.totals(x), totals);
    }

    private static void nightsAndSignsSoFar() {
        check.sentence("6 for the nights so far, 7 for the signs that were repainted so far");
        RoadPaint x = allFaded();
        check.due("no night", x.total(6), 0);
        check.due("no sign", x.total(7), 0);
        x.night(3, 3);
        check.due("a night", x.total(6), 1);
        check.due("a sign", x.total(7), 1);
        x.night(3, 3);
        check.due("a night without signs", x.total(6), 2);
        check.due("a sign", x.total(7), 1);
        Check.write(x, "nac;npp");
        x.carryOut();
        check.due("nights of orders", x.total(6), 4);
        check.due("signs of orders", x.total(7), 5);
        for (int i = 0; i < 400; i++) {
            x.night(0, 0);
        }
        check.due("many nights", x.total(6), 404);
        check.due("painted signs are not repainted", x.word(2, 15, 2), 16);
        check.due("signs", x.total(7), 5);
    }

    private static void bestNightOfMostSigns() {
        check.sentence("Finds the night in which a crew would repaint the most signs");
        check.due("two words", Roads.faded(2, 11).bestNight(), 16 * 2 + 11);
        check.due("the first and the last mile", Roads.faded(0, 15).bestNight(), 15);
        check.due("all miles", Roads.faded(0, 3, 4, 15).bestNight(), 15);
        RoadPaint x = fullMile();
        check.due("two miles", x.bestNight(), 16 * 7 + 8);
        check.due("as it was told", x.night(7, 8), 9);
        RoadPaint y = fullMile();
        y.erase(0, 8);
        check.due("a full mile", y.bestNight(), 16 * 7 + 7);
        y.traffic(2, 20);
        y.word(2, 3, 2);
        y.pass(2);
        check.due("60 does not count", y.bestNight(), 16 * 7 + 7);
        y.pass(1);
        check.due("one more sign", y.bestNight(), 16 * 3 + 7);
    }

    private static void bestNightOfAllSorts() {
        check.sentence("Signs are arrows, words, and dashes that are not 0 (each counts for a night)");
        for (int sign = 0; sign < 8; sign++) {
            RoadPaint x = Roads.faded(8);
            for (int lane = 0; lane < 3; lane++) {
                x.traffic(lane, 20);
            }
            if (sign < 3) {
                x.arrow(sign, 11, 1);
            } else if (sign < 6) {
                x.word(sign - 3, 11, 1);
                x.set(0, 100);
            } else {
                x.dash(sign - 6, 11, 3);
            }
            x.pass(1);
            x.night(8, 8);
            x.pass(2);
            int strength = sign >= 3 && sign < 6 ? 50 : 40;
            check.due("the sign " + sign, x.total(9), 60 + strength);
            check.due("the sign alone", x.bestNight(), 17 * 11);
            x.pass(1);
            check.due("with another sign", x.bestNight(), 16 * 8 + 11);
            check.due("a night", x.night(8, 11), 2);
        }
    }

    private static void bestNightOfOneMile() {
        check.sentence("Returns 16 * the mile at which it begins + the mile at which it ends");
        for (int mile = 0; mile < 16; mile++) {
            check.due("a word at " + mile, Roads.faded(mile).bestNight(), 17 * mile);
        }
        for (int mile = 0; mile < 15; mile++) {
            check.due("words at " + mile + " and behind", Roads.faded(mile, mile + 1).bestNight(), 17 * mile + 1);
        }
    }

    private static void bestNightWeakerThan60() {
        check.sentence("NONE if none would repaint any (a sign that is not weaker than 60)");
        check.due("59", Roads.wordOfStrength(59).bestNight(), 17 * 6);
        check.due("60", Roads.wordOfStrength(60).bestNight(), NONE);
        check.due("1", Roads.wordOfStrength(1).bestNight(), 17 * 6);
        RoadPaint x = Roads.wordOfStrength(20);
        x.traffic(1, 20);
        check.due("gone", x.pass(1), 1);
        check.due("no sign", x.bestNight(), NONE);
    }

    private static void bestNightWithCansAndSetting() {
        check.sentence("with as many cans as there are and the setting 1");
        for (int cans = 1; cans <= 10; cans++) {
            RoadPaint x = withCans(cans);
            x.set(1, 10);
            check.due("cans " + cans, x.bestNight(), (cans - 1) / 2);
            RoadPaint y = withCans(10);
            y.set(1, cans);
            check.due("the setting " + cans, y.bestNight(), (cans - 1) / 2);
        }
        check.due("more cans than signs", withCans(99).bestNight(), 15);
        RoadPaint z = withCans(99);
        z.set(1, 27);
        check.due("a sign less than there are", z.bestNight(), 16 * 0 + 15);
        check.due("with the setting 12", allFaded().bestNight(), 11);
    }

    private static void bestNightOfFewestMiles() {
        check.sentence("of several the one with the fewest miles");
        RoadPaint x = Roads.faded(0, 5, 9, 12);
        x.set(1, 2);
        check.due("4 miles, not 5 or 6", x.bestNight(), 16 * 9 + 12);
        x.set(1, 3);
        check.due("8 miles, not 10", x.bestNight(), 16 * 5 + 12);
        x.set(1, 4);
        check.due("13 miles", x.bestNight(), 16 * 0 + 12);
        x.set(1, 1);
        check.due("a mile", x.bestNight(), 0);
    }

    private static void bestNightThatBeginsLowest() {
        check.sentence("then with the lowest mile at which it begins");
        RoadPaint x = Roads.faded(3, 5, 7);
        x.set(1, 2);
        check.due("3 to 5, not 5 to 3 or 5 to 7", x.bestNight(), 16 * 3 + 5);
        x.set(1, 1);
        check.due("3, not 5", x.bestNight(), 17 * 3);
        RoadPaint y = Roads.faded(14, 15);
        check.due("14 to 15, not 15 to 14", y.bestNight(), 16 * 14 + 15);
        RoadPaint z = Roads.faded(0, 1);
        check.due("0 to 1, not 1 to 0", z.bestNight(), 1);
        RoadPaint w = Roads.faded(0, 7, 8, 15);
        w.set(1, 1);
        check.due("the mile 0", w.bestNight(), 0);
        w.word(2, 0, 2);
        check.due("the mile 7", w.bestNight(), 17 * 7);
    }

    private static void bestNightOfNone() {
        check.sentence("NONE if none would repaint any");
        check.due("an empty road", new RoadPaint().bestNight(), NONE);
        RoadPaint x = Roads.faded(4);
        x.night(4, 4);
        check.due("all are repainted", x.bestNight(), NONE);
        check.due("as the nights would tell", x.night(0, 15), 0);
    }
}
