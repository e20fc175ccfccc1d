import java.util.ArrayDeque;
import java.util.Arrays;
import java.util.Deque;
import java.util.regex.Matcher;
import java.util.regex.Pattern;

/**
 * The document a second time, written in another way than RoadPaint: predictions are found by
 * trying, texts are read by a regular expression, states are whole copies in one row of numbers.
 */
final class RoadModel {
    private static final int ARROWS = 0;
    private static final int WORDS = 96;
    private static final int DASHES = 192;
    private static final int TRAFFIC = 256;
    private static final int SETTING = 259;
    private static final int CANS = 261;
    private static final int DAYS = 262;
    private static final int NIGHTS = 263;
    private static final int REPAINTED = 264;
    private static final int GONE = 265;
    private static final String ORDER =
            "(a[012][a-p][udb]|w[012][a-p][0-3]|l[01][a-p][0-3]|n[a-p][a-p]|d)";
    private static final Pattern TEXT = Pattern.compile(ORDER + "(;" + ORDER + ")*");

    private int[] now = new int[266];
    private int[] saved = null;
    private final Deque<int[]> recorded = new ArrayDeque<>();
    private String text = "";

    RoadModel() {
        Arrays.fill(now, TRAFFIC, TRAFFIC + 3, 5);
        now[SETTING] = 30;
        now[SETTING + 1] = 12;
        now[CANS] = 20;
    }

    /** The index of a sign's kind; its strength stands behind it. */
    private static int at(int sort, int row, int mile) {
        return sort + 2 * (16 * row + mile);
    }

    private boolean isThere(int i) {
        return now[i + 1] > 0;
    }

    private static boolean bad(int value, int low, int high) {
        return value < low || value > high;
    }

    private void record() {
        recorded.addLast(now.clone());
        if (recorded.size() > 5) {
            recorded.removeFirst();
        }
    }

    private void put(int i, int kind) {
        now[i] = kind;
        now[i + 1] = 100;
    }

    private int count(int from, int to) {
        int n = 0;
        for (int i = from; i < to; i += 2) {
            n += isThere(i) ? 1 : 0;
        }
        return n;
    }

    int arrow(int lane, int mile, int way) {
        int why = whyNot(lane, mile, way);
        if (why != 0) {
            return why < 0 ? why : RoadPaint.NOT_POSSIBLE;
        }
        record();
        put(at(ARROWS, lane, mile), way);
        return count(ARROWS, WORDS);
    }

    int word(int lane, int mile, int word) {
        if (bad(lane, 0, 2) || bad(mile, 0, 15)) return RoadPaint.NO_SUCH;
        if (bad(word, 0, 3)) return RoadPaint.BAD_VALUE;
        record();
        put(at(WORDS, lane, mile), word);
        return count(WORDS, DASHES);
    }

    int dash(int line, int mile, int dash) {
        if (bad(line, 0, 1) || bad(mile, 0, 15)) return RoadPaint.NO_SUCH;
        if (bad(dash, 0, 3)) return RoadPaint.BAD_VALUE;
        record();
        int i = at(DASHES, line, mile);
        int old = now[i];
        now[i] = dash;
        now[i + 1] = dash == 0 ? 0 : 100;
        return old;
    }

    int erase(int lane, int mile) {
        if (bad(lane, 0, 2) || bad(mile, 0, 15)) return RoadPaint.NO_SUCH;
        record();
        int n = 0;
        for (int sort : new int[] {ARROWS, WORDS}) {
            n += isThere(at(sort, lane, mile)) ? 1 : 0;
            now[at(sort, lane, mile) + 1] = 0;
        }
        return n;
    }

    int set(int setting, int value) {
        if (bad(setting, 0, 1)) return RoadPaint.NO_SUCH;
        if (bad(value, 1, new int[] {100, 40}[setting])) return RoadPaint.BAD_VALUE;
        record();
        int old = now[SETTING + setting];
        now[SETTING + setting] = value;
        return old;
    }

    int traffic(int lane, int traffic) {
        if (bad(lane, 0, 2)) return RoadPaint.NO_SUCH;
        if (bad(traffic, 0, 20)) return RoadPaint.BAD_VALUE;
        record();
        int old = now[TRAFFIC + lane];
        now[TRAFFIC + lane] = traffic;
        return old;
    }

    int bring(int cans) {
        if (bad(cans, 1, 99)) return RoadPaint.BAD_VALUE;
        if (now[CANS] + cans > 99) return RoadPaint.LIMIT;
        record();
        return now[CANS] += cans;
    }

    int pass(int days) {
        if (bad(days, 1, 30)) return RoadPaint.BAD_VALUE;
        record();
        int gone = 0;
        for (int day = 0; day < days; day++) {
            gone += day();
        }
        return gone;
    }

    private int day() {
        int[] before = now.clone();
        int signs = count(ARROWS, TRAFFIC);
        for (int row = 0; row < 3; row++) {
            for (int mile = 0; mile < 16; mile++) {
                int word = at(WORDS, row, mile);
                int loss = before[TRAFFIC + row];
                if (before[word + 1] >= before[SETTING] && before[word] <= 1) {
                    loss = loss / 2;
                }
                lose(word, loss);
                lose(at(ARROWS, row, mile), loss);
                if (row < 2) {
                    lose(at(DASHES, row, mile), (before[TRAFFIC + row] + before[TRAFFIC + row + 1]) / 2);
                }
            }
        }
        int gone = signs - count(ARROWS, TRAFFIC);
        now[DAYS]++;
        now[GONE] += gone;
        return gone;
    }

    private void lose(int i, int loss) {
        now[i + 1] = now[i + 1] < loss ? 0 : now[i + 1] - loss;
        if (now[i + 1] == 0) {
            now[i] = 0;
        }
    }

    int night(int from, int to) {
        if (bad(from, 0, 15) || bad(to, 0, 15)) return RoadPaint.NO_SUCH;
        if (now[CANS] == 0) return RoadPaint.NOT_POSSIBLE;
        record();
        return crew(from, to);
    }

    private int crew(int from, int to) {
        int done = 0;
        int mile = from;
        now[NIGHTS]++;
        while (true) {
            int[] turn = {at(WORDS, 0, mile), at(WORDS, 1, mile), at(WORDS, 2, mile),
                at(ARROWS, 0, mile), at(ARROWS, 1, mile), at(ARROWS, 2, mile),
                at(DASHES, 0, mile), at(DASHES, 1, mile)};
            for (int i : turn) {
                if (now[CANS] == 0 || done == now[SETTING + 1]) {
                    return done;
                }
                if (isThere(i) && now[i + 1] < 60) {
                    now[i + 1] = 100;
                    now[CANS]--;
                    now[REPAINTED]++;
                    done++;
                }
            }
            if (mile == to) {
                return done;
            }
            mile += mile < to ? 1 : -1;
        }
    }

    int cell(int lane, int mile, int part) {
        if (bad(lane, 0, 2) || bad(mile, 0, 15)) return RoadPaint.NO_SUCH;
        if (bad(part, 0, 6)) return RoadPaint.BAD_VALUE;
        int i = at(part < 2 || part > 4 ? ARROWS : WORDS, lane, mile);
        if (part == 0 || part == 2) return isThere(i) ? now[i] : RoadPaint.NONE;
        if (part == 1 || part == 3) return now[i + 1];
        if (part == 4) return now[i + 1] >= now[SETTING] ? 1 : 0;
        return isThere(i) && now[i] == (part == 5 ? 1 : 0) ? 0 : 1;
    }

    int line(int line, int mile, int part) {
        if (bad(line, 0, 1) || bad(mile, 0, 15)) return RoadPaint.NO_SUCH;
        if (bad(part, 0, 1)) return RoadPaint.BAD_VALUE;
        return now[at(DASHES, line, mile) + part];
    }

    int mayChange(int from, int to, int mile, int way) {
        if (bad(from, 0, 2) || bad(to, 0, 2) || bad(mile, 0, 15)) return RoadPaint.NO_SUCH;
        if (from - to != 1 && to - from != 1 || bad(way, 0, 1)) return RoadPaint.BAD_VALUE;
        int dash = line(from < to ? from : to, mile, 0);
        boolean open = dash == 0 || dash == 2 || dash == 3 && from < to;
        return cell(to, mile, 5 + way) == 1 && open ? 1 : 0;
    }

    int total(int what) {
        if (bad(what, 0, 14)) return RoadPaint.BAD_VALUE;
        int read = 0;
        int sum = 0;
        for (int i = ARROWS; i < TRAFFIC; i += 2) {
            read += i >= WORDS && i < DASHES && now[i + 1] >= now[SETTING] ? 1 : 0;
            sum += now[i + 1];
        }
        int[] totals = {count(ARROWS, WORDS), count(WORDS, DASHES), count(DASHES, TRAFFIC), read, now[CANS],
            now[DAYS], now[NIGHTS], now[REPAINTED], now[GONE], sum, now[TRAFFIC], now[TRAFFIC + 1],
            now[TRAFFIC + 2], now[SETTING], now[SETTING + 1]};
        return totals[what];
    }

    int whyNot(int lane, int mile, int way) {
        if (bad(lane, 0, 2) || bad(mile, 0, 15)) return RoadPaint.NO_SUCH;
        if (bad(way, 0, 2)) return RoadPaint.BAD_VALUE;
        int higher = mile + 1;
        while (higher < 16 && !isThere(at(ARROWS, lane, higher))) {
            higher++;
        }
        int lower = mile - 1;
        while (lower >= 0 && !isThere(at(ARROWS, lane, lower))) {
            lower--;
        }
        if (higher < 16 && higher - mile <= 4 && way != 1 && now[at(ARROWS, lane, higher)] != 0) return 1;
        if (lower >= 0 && mile - lower <= 4 && now[at(ARROWS, lane, lower)] != 1 && way != 0) return 1;
        for (int beside = 0; beside < 3; beside++) {
            int i = at(ARROWS, beside, mile);
            if (Math.abs(beside - lane) == 1 && isThere(i) && now[i] + way == 1
                    && line(Math.min(lane, beside), mile, 0) % 2 == 0) {
                return 2;
            }
        }
        return 0;
    }

    int readableFor(int lane, int mile) {
        if (bad(lane, 0, 2) || bad(mile, 0, 15)) return RoadPaint.NO_SUCH;
        if (!isThere(at(WORDS, lane, mile))) return RoadPaint.NONE;
        int[] kept = now.clone();
        int days = 0;
        while (days <= 300 && cell(lane, mile, 4) == 1) {
            day();
            days++;
        }
        now = kept;
        return days > 300 ? RoadPaint.NONE : days;
    }

    int bestNight() {
        if (now[CANS] == 0) return RoadPaint.NOT_POSSIBLE;
        int best = RoadPaint.NONE;
        int most = 0;
        for (int miles = 1; miles <= 16; miles++) {
            for (int from = 0; from < 16; from++) {
                for (int to = 0; to < 16; to++) {
                    if (Math.abs(to - from) + 1 == miles) {
                        int[] kept = now.clone();
                        int signs = crew(from, to);
                        now = kept;
                        if (signs > most) {
                            most = signs;
                            best = 16 * from + to;
                        }
                    }
                }
            }
        }
        return best;
    }

    int fewestChanges(int way, int lane) {
        if (bad(lane, 0, 2)) return RoadPaint.NO_SUCH;
        if (bad(way, 0, 1)) return RoadPaint.BAD_VALUE;
        int[][] fewest = new int[16][3];
        for (int[] row : fewest) {
            Arrays.fill(row, Integer.MAX_VALUE);
        }
        drive(fewest, way, way == 0 ? 0 : 15, lane, 0);
        int best = Arrays.stream(fewest[way == 0 ? 15 : 0]).min().getAsInt();
        return best == Integer.MAX_VALUE ? RoadPaint.NONE : best;
    }

    private void drive(int[][] fewest, int way, int mile, int lane, int changes) {
        if (mile < 0 || mile > 15 || cell(lane, mile, 5 + way) == 0 || fewest[mile][lane] <= changes) {
            return;
        }
        fewest[mile][lane] = changes;
        drive(fewest, way, mile + (way == 0 ? 1 : -1), lane, changes);
        for (int to = 0; to < 3; to++) {
            if (mayChange(lane, to, mile, way) == 1) {
                drive(fewest, way, mile, to, changes + 1);
            }
        }
    }

    int append(int code) {
        if (bad(code, 33, 126)) return RoadPaint.BAD_VALUE;
        if (text.length() == 70) return RoadPaint.LIMIT;
        text += (char) code;
        return text.length();
    }

    int clearText() {
        int n = text.length();
        text = "";
        return n;
    }

    int errorPosition() {
        if (TEXT.matcher(text).matches()) return RoadPaint.NONE;
        for (int n = 1; n <= text.length(); n++) {
            Matcher matcher = TEXT.matcher(text.substring(0, n));
            if (!matcher.matches() && !matcher.hitEnd()) return n - 1;
        }
        return text.length();
    }

    int carryOut() {
        if (!TEXT.matcher(text).matches()) return RoadPaint.BAD_TEXT;
        Deque<int[]> kept = new ArrayDeque<>(recorded);
        int[] before = now.clone();
        int done = 0;
        for (String order : text.split(";")) {
            if (order(order) < 0) {
                break;
            }
            done++;
        }
        recorded.clear();
        recorded.addAll(kept);
        int[] after = now;
        now = before;
        record();
        now = after;
        text = "";
        return done;
    }

    private int order(String order) {
        if (order.equals("d")) return pass(1);
        if (order.charAt(0) == 'n') return night(order.charAt(1) - 'a', order.charAt(2) - 'a');
        int row = order.charAt(1) - '0';
        int mile = order.charAt(2) - 'a';
        if (order.charAt(0) == 'a') return arrow(row, mile, "udb".indexOf(order.charAt(3)));
        int kind = order.charAt(3) - '0';
        return order.charAt(0) == 'w' ? word(row, mile, kind) : dash(row, mile, kind);
    }

    int undo() {
        if (recorded.isEmpty()) return RoadPaint.NOT_POSSIBLE;
        now = recorded.removeLast();
        return recorded.size();
    }

    int save() {
        saved = now.clone();
        return now[DAYS];
    }

    int restore() {
        if (saved == null) return RoadPaint.NOT_POSSIBLE;
        record();
        now = saved.clone();
        return now[DAYS];
    }
}
