/** All promises: runs of at most 512 calls, the same ones each time, on RoadPaint and on RoadModel. */
public final class RandomRunsTest {
    private static final int RUNS = 4000;
    private static final int CALLS = 512;
    private static final int MOST_CALLS_AT_ONCE = 75;
    private static final Check check = new Check("RandomRunsTest");

    private final Dice dice;
    private final RoadPaint road = new RoadPaint();
    private final RoadModel model = new RoadModel();
    private final int[] weights = new int[26];
    private final int rows;
    private String called = "";
    private int calls = 0;

    public static void main(String[] args) {
        for (int run = 0; run < RUNS; run++) {
            new RandomRunsTest(run).run(run);
        }
        check.end();
    }

    /** Each run has likes of its own, so that rare states are reached too. */
    private RandomRunsTest(int seed) {
        dice = new Dice(seed);
        rows = 1 + dice.below(16);
        for (int i = 0; i < weights.length; i++) {
            weights[i] = 1 + dice.below(dice.below(8) + 1);
        }
        weights[7] = Math.min(weights[7], 2);
    }

    /**
     * Ends at the first wrong answer, as what follows it tells nothing more. What an object answers
     * after its 512th call is free; each other run keeps some calls for a look at all that there is.
     */
    private void run(int run) {
        boolean looks = run % 2 == 0;
        int last = looks ? CALLS - Roads.PICTURE_CALLS : CALLS;
        while (calls < last) {
            int what = choose();
            boolean room = calls + MOST_CALLS_AT_ONCE <= last;
            long both = what < 24 || !room ? call(what % 24) : what == 24 ? text() : lookAtMile(dice.below(rows));
            if (!check.due("run " + run + ", call " + calls + ", " + called, (int) (both >> 32), (int) both)) {
                return;
            }
        }
        if (looks) {
            long both = lookAtAll();
            check.due("run " + run + ", at the end, " + called, (int) (both >> 32), (int) both);
        }
        check.isTrue("at most 512 calls", calls <= CALLS);
    }

    private int choose() {
        int sum = 0;
        for (int weight : weights) {
            sum += weight;
        }
        int at = dice.below(sum);
        int what = 0;
        while (at >= weights[what]) {
            at -= weights[what];
            what++;
        }
        return what;
    }

    private static long both(int got, int want) {
        return ((long) got << 32) | (want & 0xffffffffL);
    }

    /** Mostly a value from 0 to below the bound, now and then one beside it. */
    private int value(int bound) {
        int luck = dice.below(60);
        return luck == 0 ? -1 : luck == 1 ? bound : luck == 2 ? dice.wild() : dice.below(bound);
    }

    private int mile() {
        int luck = dice.below(60);
        return luck == 0 ? -1 : luck == 1 ? 16 : dice.below(luck < 10 ? 16 : rows);
    }

    private long call(int what) {
        int lane = value(3);
        int line = value(2);
        int mile = mile();
        int other = mile();
        int way = value(3);
        int kind = value(4);
        int part = value(7);
        int number = value(101);
        calls++;
        called = what + ": " + lane + " " + line + " " + mile + " " + other + " " + way + " " + kind + " " + part
                + " " + number;
        switch (what) {
            case 0: return both(road.arrow(lane, mile, way), model.arrow(lane, mile, way));
            case 1: return both(road.word(lane, mile, kind), model.word(lane, mile, kind));
            case 2: return both(road.dash(line, mile, kind), model.dash(line, mile, kind));
            case 3: return both(road.erase(lane, mile), model.erase(lane, mile));
            case 4: return both(road.set(line, number), model.set(line, number));
            case 5: return both(road.traffic(lane, number / 4), model.traffic(lane, number / 4));
            case 6: return both(road.bring(number), model.bring(number));
            case 7: return both(road.pass(1 + number / 20), model.pass(1 + number / 20));
            case 8: return both(road.night(mile, other), model.night(mile, other));
            case 9: return both(road.cell(lane, mile, part), model.cell(lane, mile, part));
            case 10: return both(road.line(line, mile, kind / 2), model.line(line, mile, kind / 2));
            case 11: return both(road.mayChange(lane, way, mile, line), model.mayChange(lane, way, mile, line));
            case 12: return both(road.total(part * 2 + line), model.total(part * 2 + line));
            case 13: return both(road.whyNot(lane, mile, way), model.whyNot(lane, mile, way));
            case 14: return both(road.readableFor(lane, mile), model.readableFor(lane, mile));
            case 15: return both(road.bestNight(), model.bestNight());
            case 16: return both(road.fewestChanges(line, lane), model.fewestChanges(line, lane));
            case 17: return both(road.append(number + 30), model.append(number + 30));
            case 18: return both(road.clearText(), model.clearText());
            case 19: return both(road.errorPosition(), model.errorPosition());
            case 20: return both(road.carryOut(), model.carryOut());
            case 21: return both(road.undo(), model.undo());
            case 22: return both(road.save(), model.save());
            default: return both(road.restore(), model.restore());
        }
    }

    /** Writes some orders, seldom with a wrong character, and carries them out. */
    private long text() {
        StringBuilder text = new StringBuilder();
        int orders = 1 + dice.below(16);
        for (int i = 0; i < orders; i++) {
            text.append(i == 0 ? "" : ";").append(order());
        }
        if (dice.below(6) == 0) {
            text.setCharAt(dice.below(text.length()), "a0pd;lnw3ubqA".charAt(dice.below(13)));
        }
        called = "text " + text;
        for (int i = 0; i < text.length(); i++) {
            calls++;
            int got = road.append(text.charAt(i));
            int want = model.append(text.charAt(i));
            if (got != want) {
                return both(got, want);
            }
        }
        calls += 3;
        int got = road.errorPosition();
        int want = model.errorPosition();
        if (got != want) {
            return both(got, want);
        }
        long answer = both(road.carryOut(), model.carryOut());
        road.clearText();
        model.clearText();
        return answer;
    }

    private String order() {
        char mile = (char) ('a' + dice.below(rows));
        switch (dice.below(6)) {
            case 0: return "a" + dice.below(3) + mile + "udb".charAt(dice.below(3));
            case 1: return "w" + dice.below(3) + mile + dice.below(4);
            case 2: return "l" + dice.below(2) + mile + dice.below(4);
            case 3: return "n" + mile + (char) ('a' + dice.below(16));
            default: return "d";
        }
    }

    private long lookAtAll() {
        for (int mile = 0; mile < 16; mile++) {
            long both = lookAtMile(mile);
            if (both != 0) {
                return both;
            }
        }
        for (int what = 0; what < 15; what++) {
            calls++;
            called = "look at total " + what;
            int got = road.total(what);
            int want = model.total(what);
            if (got != want) {
                return both(got, want);
            }
        }
        return 0;
    }

    /** Compares the signs of a mile, and answers 0 if they are alike. */
    private long lookAtMile(int mile) {
        for (int i = 0; i < 16; i++) {
            boolean isCell = i < 12;
            int row = isCell ? i / 4 : i / 2 % 2;
            int part = isCell ? i % 4 : i % 2;
            calls++;
            called = "look at " + (isCell ? "cell " : "line ") + row + " " + mile + " " + part;
            int got = isCell ? road.cell(row, mile, part) : road.line(row, mile, part);
            int want = isCell ? model.cell(row, mile, part) : model.line(row, mile, part);
            if (got != want) {
                return both(got, want);
            }
        }
        return 0;
    }

    /** Numbers that follow from a seed alone. */
    private static final class Dice {
        private long state;

        Dice(long seed) {
            state = seed * 0x9E3779B97F4A7C15L + 12345;
        }

        int below(int bound) {
            return (int) Math.floorMod((long) wild(), (long) bound);
        }

        int wild() {
            state = state * 6364136223846793005L + 1442695040888963407L;
            return (int) (state >> 33);
        }
    }
}
