/**
 * A road of 3 lanes and 16 miles with painted signs: arrows, words and dashes, which fade by
 * traffic, are repainted by crews at night, and are ordered by texts.
 */
public final class RoadPaint {
    public static final int NO_SUCH = -1;
    public static final int BAD_VALUE = -2;
    public static final int NOT_POSSIBLE = -3;
    public static final int LIMIT = -4;
    public static final int BAD_TEXT = -5;
    public static final int NONE = -6;

    private static final int FINE = 0;

    private static final int LANES = 3;
    private static final int LINES = 2;
    private static final int MILES = 16;

    private static final int UP = 0;
    private static final int DOWN = 1;
    private static final int DRIVING_WAYS = 2;
    private static final int ARROW_WAYS = 3;

    private static final int STOP = 1;
    private static final int BUS = 2;
    private static final int WORDS = 4;

    private static final int NO_DASH = 0;
    private static final int SOLID = 1;
    private static final int BROKEN = 2;
    private static final int SOLID_AND_BROKEN = 3;
    private static final int DASHES = 4;

    private static final int FULL_STRENGTH = 100;
    private static final int STRENGTH_LEFT_ALONE = 60;
    private static final int HEAD_ON_MILES = 4;

    private static final int SETTINGS = 2;
    private static final int READABLE_STRENGTH = 0;
    private static final int CREW_SIGNS = 1;
    private static final int MOST_READABLE_STRENGTH = 100;
    private static final int MOST_CREW_SIGNS = 40;
    private static final int FIRST_READABLE_STRENGTH = 30;
    private static final int FIRST_CREW_SIGNS = 12;

    private static final int FIRST_TRAFFIC = 5;
    private static final int MOST_TRAFFIC = 20;
    private static final int FIRST_CANS = 20;
    private static final int MOST_CANS = 99;
    private static final int MOST_DAYS = 30;

    private static final int CELL_PARTS = 7;
    private static final int LINE_PARTS = 2;

    private static final int KEPT_STATES = 5;
    private static final int TEXT_LENGTH = 70;
    private static final int FIRST_CODE = 33;
    private static final int LAST_CODE = 126;

    /** More changes of lanes than any drive has. */
    private static final int FAR = 1000;

    private final Road road;
    private final Road saved;
    private boolean hasSaved;
    private final History history;
    private final Orders orders;
    private final Driver driver;

    public RoadPaint() {
        road = new Road();
        saved = new Road();
        hasSaved = false;
        history = new History();
        orders = new Orders();
        driver = new Driver();
    }

    // ---- signs

    public int arrow(int lane, int mile, int way) {
        int error = arrowError(lane, mile, way);
        return error != FINE ? error : recordedRoad().putArrow(lane, mile, way);
    }

    public int word(int lane, int mile, int word) {
        int error = placeError(lane, LANES, mile, word, WORDS);
        return error != FINE ? error : recordedRoad().putWord(lane, mile, word);
    }

    public int dash(int line, int mile, int dash) {
        int error = placeError(line, LINES, mile, dash, DASHES);
        return error != FINE ? error : recordedRoad().putDash(line, mile, dash);
    }

    public int erase(int lane, int mile) {
        if (!isPlace(lane, LANES, mile)) {
            return NO_SUCH;
        }
        return recordedRoad().clearCell(lane, mile);
    }

    // ---- traffic, crews

    public int set(int setting, int value) {
        if (!isWithin(setting, 0, SETTINGS - 1)) {
            return NO_SUCH;
        }
        int most = setting == READABLE_STRENGTH ? MOST_READABLE_STRENGTH : MOST_CREW_SIGNS;
        if (!isWithin(value, 1, most)) {
            return BAD_VALUE;
        }
        return recordedRoad().changeSetting(setting, value);
    }

    public int traffic(int lane, int traffic) {
        if (!isWithin(lane, 0, LANES - 1)) {
            return NO_SUCH;
        }
        if (!isWithin(traffic, 0, MOST_TRAFFIC)) {
            return BAD_VALUE;
        }
        return recordedRoad().changeTraffic(lane, traffic);
    }

    public int bring(int cans) {
        if (!isWithin(cans, 1, MOST_CANS)) {
            return BAD_VALUE;
        }
        if (road.cans + cans > MOST_CANS) {
            return LIMIT;
        }
        return recordedRoad().addCans(cans);
    }

    public int pass(int days) {
        if (!isWithin(days, 1, MOST_DAYS)) {
            return BAD_VALUE;
        }
        return recordedRoad().passDays(days);
    }

    public int night(int from, int to) {
        int error = nightError(from, to);
        return error != FINE ? error : recordedRoad().workNight(from, to);
    }

    // ---- what there is

    public int cell(int lane, int mile, int part) {
        int error = placeError(lane, LANES, mile, part, CELL_PARTS);
        return error != FINE ? error : road.cellPart(lane, mile, part);
    }

    public int line(int line, int mile, int part) {
        int error = placeError(line, LINES, mile, part, LINE_PARTS);
        return error != FINE ? error : road.linePart(line, mile, part);
    }

    public int mayChange(int from, int to, int mile, int way) {
        if (!isPlace(from, LANES, mile) || !isPlace(to, LANES, mile)) {
            return NO_SUCH;
        }
        if (Math.abs(from - to) != 1 || !isWithin(way, 0, DRIVING_WAYS - 1)) {
            return BAD_VALUE;
        }
        return asNumber(road.allowsChange(from, to, mile, way));
    }

    public int total(int what) {
        switch (what) {
            case 0: return road.arrows.count();
            case 1: return road.words.count();
            case 2: return road.dashes.count();
            case 3: return road.words.countFrom(road.settings[READABLE_STRENGTH]);
            case 4: return road.cans;
            case 5: return road.days;
            case 6: return road.nights;
            case 7: return road.repainted;
            case 8: return road.gone;
            case 9: return road.sumOfStrengths();
            case 10: return road.traffics[0];
            case 11: return road.traffics[1];
            case 12: return road.traffics[2];
            case 13: return road.settings[READABLE_STRENGTH];
            case 14: return road.settings[CREW_SIGNS];
            default: return BAD_VALUE;
        }
    }

    // ---- predictions; they change nothing

    public int whyNot(int lane, int mile, int way) {
        int error = placeError(lane, LANES, mile, way, ARROW_WAYS);
        return error != FINE ? error : road.refusal(lane, mile, way);
    }

    public int readableFor(int lane, int mile) {
        if (!isPlace(lane, LANES, mile)) {
            return NO_SUCH;
        }
        return road.readableDays(lane, mile);
    }

    public int bestNight() {
        if (road.cans == 0) {
            return NOT_POSSIBLE;
        }
        return road.nightOfMostSigns();
    }

    public int fewestChanges(int way, int lane) {
        if (!isWithin(lane, 0, LANES - 1)) {
            return NO_SUCH;
        }
        if (!isWithin(way, 0, DRIVING_WAYS - 1)) {
            return BAD_VALUE;
        }
        return driver.driveAlong(road, way, lane);
    }

    // ---- texts

    public int append(int code) {
        if (!isWithin(code, FIRST_CODE, LAST_CODE)) {
            return BAD_VALUE;
        }
        if (orders.length >= TEXT_LENGTH) {
            return LIMIT;
        }
        return orders.add(code);
    }

    public int clearText() {
        return orders.empty();
    }

    public int errorPosition() {
        return orders.firstError();
    }

    public int carryOut() {
        if (orders.firstError() != NONE) {
            return BAD_TEXT;
        }
        history.record(road);
        int at = 0;
        int done = 0;
        while (done < TEXT_LENGTH && at < orders.length && carriesOutOrder(at)) {
            at += orders.widthAt(at) + 1;
            done++;
        }
        orders.empty();
        return done;
    }

    // ---- undo, saved state

    public int undo() {
        if (history.count == 0) {
            return NOT_POSSIBLE;
        }
        return history.takeBack(road);
    }

    public int save() {
        saved.copyFrom(road);
        hasSaved = true;
        return road.days;
    }

    public int restore() {
        if (!hasSaved) {
            return NOT_POSSIBLE;
        }
        recordedRoad().copyFrom(saved);
        return road.days;
    }

    // ---- what the calls have in common

    /** The road, after its state has been recorded for undo(). */
    private Road recordedRoad() {
        history.record(road);
        return road;
    }

    private int arrowError(int lane, int mile, int way) {
        int error = placeError(lane, LANES, mile, way, ARROW_WAYS);
        if (error != FINE) {
            return error;
        }
        return road.refusal(lane, mile, way) == FINE ? FINE : NOT_POSSIBLE;
    }

    private int nightError(int from, int to) {
        if (!isWithin(from, 0, MILES - 1) || !isWithin(to, 0, MILES - 1)) {
            return NO_SUCH;
        }
        return road.cans == 0 ? NOT_POSSIBLE : FINE;
    }

    /** Carries out the order at an index of the buffer, unless its method would fail. */
    private boolean carriesOutOrder(int at) {
        int letter = orders.codeAt(at);
        int first = orders.argument(at, 1);
        int second = orders.argument(at, 2);
        int third = orders.argument(at, 3);
        if (orderError(letter, first, second, third) != FINE) {
            return false;
        }
        switch (letter) {
            case 'a': road.putArrow(first, second, third); break;
            case 'w': road.putWord(first, second, third); break;
            case 'l': road.putDash(first, second, third); break;
            case 'n': road.workNight(first, second); break;
            default: road.passDays(1); break;
        }
        return true;
    }

    private int orderError(int letter, int first, int second, int third) {
        switch (letter) {
            case 'a': return arrowError(first, second, third);
            case 'w': return placeError(first, LANES, second, third, WORDS);
            case 'l': return placeError(first, LINES, second, third, DASHES);
            case 'n': return nightError(first, second);
            case 'd': return FINE;
            default: return BAD_TEXT;
        }
    }

    /** The error of a call with a lane or line, a mile, and a value from 0 to below a bound. */
    private static int placeError(int row, int rows, int mile, int value, int values) {
        if (!isPlace(row, rows, mile)) {
            return NO_SUCH;
        }
        return isWithin(value, 0, values - 1) ? FINE : BAD_VALUE;
    }

    private static boolean isPlace(int row, int rows, int mile) {
        return isWithin(row, 0, rows - 1) && isWithin(mile, 0, MILES - 1);
    }

    private static boolean isWithin(int value, int low, int high) {
        return value >= low && value <= high;
    }

    private static int asNumber(boolean truth) {
        return truth ? 1 : 0;
    }

    /** The signs of one sort in all lanes or lines; a sign is there while it has strength. */
    private static final class Signs {
        private final int rows;
        private final int[] kinds;
        private final int[] strengths;

        Signs(int rows) {
            this.rows = rows;
            kinds = new int[rows * MILES];
            strengths = new int[rows * MILES];
        }

        boolean isAt(int row, int mile) {
            return strengths[row * MILES + mile] > 0;
        }

        int strengthAt(int row, int mile) {
            return strengths[row * MILES + mile];
        }

        int kindOr(int row, int mile, int without) {
            int at = row * MILES + mile;
            return strengths[at] > 0 ? kinds[at] : without;
        }

        void paint(int row, int mile, int kind) {
            int at = row * MILES + mile;
            kinds[at] = kind;
            strengths[at] = FULL_STRENGTH;
        }

        /** Returns the number of signs that are removed. */
        int remove(int row, int mile) {
            return weaken(row, mile, FULL_STRENGTH);
        }

        /** Returns the number of signs that are gone by it. */
        int weaken(int row, int mile, int loss) {
            int at = row * MILES + mile;
            if (strengths[at] == 0) {
                return 0;
            }
            strengths[at] = Math.max(0, strengths[at] - loss);
            return asNumber(strengths[at] == 0);
        }

        int countFaded(int mile) {
            int faded = 0;
            for (int row = 0; row < rows; row++) {
                faded += asNumber(isFaded(row, mile));
            }
            return faded;
        }

        /** Repaints at most so many faded signs of a mile, and returns how many. */
        int repaintFaded(int mile, int most) {
            int done = 0;
            for (int row = 0; row < rows && done < most; row++) {
                if (isFaded(row, mile)) {
                    strengths[row * MILES + mile] = FULL_STRENGTH;
                    done++;
                }
            }
            return done;
        }

        private boolean isFaded(int row, int mile) {
            int strength = strengths[row * MILES + mile];
            return strength > 0 && strength < STRENGTH_LEFT_ALONE;
        }

        int count() {
            return countFrom(1);
        }

        int countFrom(int strength) {
            int found = 0;
            for (int i = 0; i < strengths.length; i++) {
                found += asNumber(strengths[i] >= strength);
            }
            return found;
        }

        int sumOfStrengths() {
            int sum = 0;
            for (int i = 0; i < strengths.length; i++) {
                sum += strengths[i];
            }
            return sum;
        }

        void copyFrom(Signs other) {
            for (int i = 0; i < strengths.length && i < other.strengths.length; i++) {
                kinds[i] = other.kinds[i];
                strengths[i] = other.strengths[i];
            }
        }
    }

    /** All that undo() and restore() bring back; its methods take places that have been tested. */
    private static final class Road {
        private final Signs arrows;
        private final Signs words;
        private final Signs dashes;
        private final int[] traffics;
        private final int[] settings;
        private int cans;
        private int days;
        private int nights;
        private int repainted;
        private int gone;

        Road() {
            arrows = new Signs(LANES);
            words = new Signs(LANES);
            dashes = new Signs(LINES);
            traffics = new int[] {FIRST_TRAFFIC, FIRST_TRAFFIC, FIRST_TRAFFIC};
            settings = new int[] {FIRST_READABLE_STRENGTH, FIRST_CREW_SIGNS};
            cans = FIRST_CANS;
        }

        void copyFrom(Road other) {
            arrows.copyFrom(other.arrows);
            words.copyFrom(other.words);
            dashes.copyFrom(other.dashes);
            System.arraycopy(other.traffics, 0, traffics, 0, LANES);
            System.arraycopy(other.settings, 0, settings, 0, SETTINGS);
            cans = other.cans;
            days = other.days;
            nights = other.nights;
            repainted = other.repainted;
            gone = other.gone;
        }

        // ---- changes

        int putArrow(int lane, int mile, int way) {
            arrows.paint(lane, mile, way);
            return arrows.count();
        }

        int putWord(int lane, int mile, int word) {
            words.paint(lane, mile, word);
            return words.count();
        }

        int putDash(int line, int mile, int dash) {
            int before = dashAt(line, mile);
            if (dash == NO_DASH) {
                dashes.remove(line, mile);
            } else {
                dashes.paint(line, mile, dash);
            }
            return before;
        }

        int clearCell(int lane, int mile) {
            return arrows.remove(lane, mile) + words.remove(lane, mile);
        }

        int changeSetting(int setting, int value) {
            int before = settings[setting];
            settings[setting] = value;
            return before;
        }

        int changeTraffic(int lane, int traffic) {
            int before = traffics[lane];
            traffics[lane] = traffic;
            return before;
        }

        int addCans(int more) {
            cans += more;
            return cans;
        }

        int passDays(int count) {
            int lost = 0;
            for (int day = 0; day < count; day++) {
                lost += passDay();
            }
            days += count;
            gone += lost;
            return lost;
        }

        private int passDay() {
            int lost = 0;
            for (int mile = 0; mile < MILES; mile++) {
                for (int lane = 0; lane < LANES; lane++) {
                    // The loss is taken first, as it depends on the word ahead of the loss.
                    int loss = lossAt(lane, mile);
                    lost += words.weaken(lane, mile, loss) + arrows.weaken(lane, mile, loss);
                }
                for (int line = 0; line < LINES; line++) {
                    int loss = (traffics[line] + traffics[line + 1]) / 2;
                    lost += dashes.weaken(line, mile, loss);
                }
            }
            return lost;
        }

        /** What the word and the arrow of a cell lose in the next day. */
        private int lossAt(int lane, int mile) {
            boolean slowed = canRead(lane, mile) && words.kindOr(lane, mile, BUS) <= STOP;
            return slowed ? traffics[lane] / 2 : traffics[lane];
        }

        int workNight(int from, int to) {
            int step = from <= to ? 1 : -1;
            int miles = Math.abs(to - from) + 1;
            int most = crewLimit();
            int done = 0;
            for (int i = 0; i < miles; i++) {
                done += repaintMile(from + i * step, most - done);
            }
            cans -= done;
            nights++;
            repainted += done;
            return done;
        }

        private int repaintMile(int mile, int most) {
            int done = words.repaintFaded(mile, most);
            done += arrows.repaintFaded(mile, most - done);
            done += dashes.repaintFaded(mile, most - done);
            return done;
        }

        private int crewLimit() {
            return Math.min(cans, settings[CREW_SIGNS]);
        }

        // ---- what there is

        int cellPart(int lane, int mile, int part) {
            switch (part) {
                case 0: return arrows.kindOr(lane, mile, NONE);
                case 1: return arrows.strengthAt(lane, mile);
                case 2: return words.kindOr(lane, mile, NONE);
                case 3: return words.strengthAt(lane, mile);
                case 4: return asNumber(canRead(lane, mile));
                case 5: return asNumber(isFree(lane, mile, UP));
                case 6: return asNumber(isFree(lane, mile, DOWN));
                default: return BAD_VALUE;
            }
        }

        int linePart(int line, int mile, int part) {
            return part == 0 ? dashAt(line, mile) : dashes.strengthAt(line, mile);
        }

        private int dashAt(int line, int mile) {
            return dashes.kindOr(line, mile, NO_DASH);
        }

        private boolean canRead(int lane, int mile) {
            return words.strengthAt(lane, mile) >= settings[READABLE_STRENGTH];
        }

        boolean isFree(int lane, int mile, int way) {
            return arrows.kindOr(lane, mile, NONE) != otherWay(way);
        }

        /** The way against up or down; none for both ways. */
        private static int otherWay(int way) {
            return way == UP ? DOWN : way == DOWN ? UP : NO_SUCH;
        }

        boolean allowsChange(int from, int to, int mile, int way) {
            int dash = dashAt(Math.min(from, to), mile);
            boolean crossable = dash == NO_DASH || dash == BROKEN
                    || dash == SOLID_AND_BROKEN && from < to;
            return crossable && isFree(to, mile, way);
        }

        int sumOfStrengths() {
            return arrows.sumOfStrengths() + words.sumOfStrengths() + dashes.sumOfStrengths();
        }

        // ---- predictions

        /** The reason for which an arrow would be refused, FINE if it would be set. */
        int refusal(int lane, int mile, int way) {
            int ahead = nearestArrow(lane, mile, 1);
            int behind = nearestArrow(lane, mile, -1);
            if (meetHeadOn(way, ahead) || meetHeadOn(behind, way)) {
                return 1;
            }
            boolean opposed = lane > 0 && isOpposed(lane - 1, lane - 1, mile, way)
                    || lane + 1 < LANES && isOpposed(lane + 1, lane, mile, way);
            return opposed ? 2 : FINE;
        }

        /** The way of the nearest arrow of the lane to one side, NONE if none is near enough. */
        private int nearestArrow(int lane, int mile, int step) {
            for (int i = 1; i <= HEAD_ON_MILES; i++) {
                int there = mile + i * step;
                if (isWithin(there, 0, MILES - 1) && arrows.isAt(lane, there)) {
                    return arrows.kindOr(lane, there, NONE);
                }
            }
            return NONE;
        }

        private static boolean meetHeadOn(int lower, int higher) {
            return lower != NONE && higher != NONE && lower != DOWN && higher != UP;
        }

        private boolean isOpposed(int laneBeside, int line, int mile, int way) {
            int dash = dashes.kindOr(line, mile, NO_DASH);
            boolean solid = dash == SOLID || dash == SOLID_AND_BROKEN;
            return !solid && arrows.kindOr(laneBeside, mile, NONE) == otherWay(way);
        }

        int readableDays(int lane, int mile) {
            if (!words.isAt(lane, mile)) {
                return NONE;
            }
            if (!canRead(lane, mile)) {
                return 0;
            }
            // As long as it can be read, it loses the same each day: at least 1, and then it is
            // read for at most 100 days, or nothing, and then it is read for ever.
            int loss = lossAt(lane, mile);
            if (loss == 0) {
                return NONE;
            }
            return (words.strengthAt(lane, mile) - settings[READABLE_STRENGTH]) / loss + 1;
        }

        /** Nights towards lower miles are left out: their like towards higher ones begins lower. */
        int nightOfMostSigns() {
            int most = 0;
            int fewestMiles = 0;
            int night = NONE;
            for (int from = 0; from < MILES; from++) {
                int faded = 0;
                for (int to = from; to < MILES; to++) {
                    faded += countFaded(to);
                    int signs = Math.min(faded, crewLimit());
                    int miles = to - from + 1;
                    if (signs > most || signs > 0 && signs == most && miles < fewestMiles) {
                        most = signs;
                        fewestMiles = miles;
                        night = MILES * from + to;
                    }
                }
            }
            return night;
        }

        private int countFaded(int mile) {
            return words.countFaded(mile) + arrows.countFaded(mile) + dashes.countFaded(mile);
        }
    }

    /** Finds the fewest changes of lanes along a road. */
    private static final class Driver {
        /** For each lane the fewest changes that reach it at the mile at hand, or FAR. */
        private final int[] changes;

        Driver() {
            changes = new int[LANES];
        }

        int driveAlong(Road road, int way, int start) {
            for (int lane = 0; lane < LANES; lane++) {
                changes[lane] = lane == start ? 0 : FAR;
            }
            for (int i = 0; i < MILES; i++) {
                int mile = way == UP ? i : MILES - 1 - i;
                enterMile(road, mile, way);
                changeLanes(road, mile, way);
            }
            int fewest = FAR;
            for (int lane = 0; lane < LANES; lane++) {
                fewest = Math.min(fewest, changes[lane]);
            }
            return fewest == FAR ? NONE : fewest;
        }

        private void enterMile(Road road, int mile, int way) {
            for (int lane = 0; lane < LANES; lane++) {
                if (!road.isFree(lane, mile, way)) {
                    changes[lane] = FAR;
                }
            }
        }

        /** One sweep to each side is enough, as no driver gains by turning round at a mile. */
        private void changeLanes(Road road, int mile, int way) {
            for (int lane = 0; lane + 1 < LANES; lane++) {
                changeLane(road, lane, lane + 1, mile, way);
            }
            for (int lane = LANES - 1; lane > 0; lane--) {
                changeLane(road, lane, lane - 1, mile, way);
            }
        }

        private void changeLane(Road road, int from, int to, int mile, int way) {
            if (changes[from] < FAR && road.allowsChange(from, to, mile, way)) {
                changes[to] = Math.min(changes[to], changes[from] + 1);
            }
        }
    }

    /** The recorded states: a ring whose oldest state gives way to a sixth one. */
    private static final class History {
        private final Road[] states;
        private int oldest;
        private int count;

        History() {
            states = new Road[KEPT_STATES];
            for (int i = 0; i < KEPT_STATES; i++) {
                states[i] = new Road();
            }
        }

        void record(Road road) {
            states[(oldest + count) % KEPT_STATES].copyFrom(road);
            if (count < KEPT_STATES) {
                count++;
            } else {
                oldest = (oldest + 1) % KEPT_STATES;
            }
        }

        /** Gives the latest state back to the road, and returns the number that remain. */
        int takeBack(Road road) {
            if (count > 0) {
                count--;
                road.copyFrom(states[(oldest + count) % KEPT_STATES]);
            }
            return count;
        }
    }

    /** The buffer with the text of orders. */
    private static final class Orders {
        private final char[] codes;
        private int length;

        Orders() {
            codes = new char[TEXT_LENGTH];
        }

        int add(int code) {
            if (length < TEXT_LENGTH) {
                codes[length] = (char) code;
                length++;
            }
            return length;
        }

        int empty() {
            int before = length;
            length = 0;
            return before;
        }

        int codeAt(int at) {
            return isWithin(at, 0, length - 1) ? codes[at] : 0;
        }

        /** The index of the first error, the length if only an end is missing, NONE for a text. */
        int firstError() {
            // The form of the order at hand, and the place in it that comes next; at the place 0
            // an order has to begin, of whatever form.
            String form = "?";
            int place = 0;
            for (int at = 0; at < length; at++) {
                int code = codeAt(at);
                if (place == form.length()) {
                    if (code != ';') {
                        return at;
                    }
                    place = 0;
                } else if (place == 0) {
                    form = formOf(code);
                    if (form.isEmpty()) {
                        return at;
                    }
                    place = 1;
                } else {
                    if (valueAt(form, place, code) < 0) {
                        return at;
                    }
                    place++;
                }
            }
            return place == form.length() ? NONE : length;
        }

        /** The number of characters of the order that begins at this index. */
        int widthAt(int at) {
            return formOf(codeAt(at)).length();
        }

        /** The value of a character of the order that begins at this index, negative if none. */
        int argument(int at, int place) {
            return valueAt(formOf(codeAt(at)), place, codeAt(at + place));
        }

        /** The form of an order: its letter, and then its Lane, liNe, Mile, waY, Word or Dash. */
        private static String formOf(int letter) {
            switch (letter) {
                case 'a': return "aLMY";
                case 'w': return "wLMW";
                case 'l': return "lNMD";
                case 'n': return "nMM";
                case 'd': return "d";
                default: return "";
            }
        }

        /** The value of a character at a place of an order, negative if it does not fit there. */
        private static int valueAt(String form, int place, int code) {
            if (!isWithin(place, 0, form.length() - 1)) {
                return NO_SUCH;
            }
            switch (form.charAt(place)) {
                case 'L': return valueFrom('0', LANES, code);
                case 'N': return valueFrom('0', LINES, code);
                case 'M': return valueFrom('a', MILES, code);
                case 'Y': return "udb".indexOf((char) code);
                case 'W': return valueFrom('0', WORDS, code);
                case 'D': return valueFrom('0', DASHES, code);
                default: return NO_SUCH;
            }
        }

        private static int valueFrom(char first, int values, int code) {
            int value = code - first;
            return isWithin(value, 0, values - 1) ? value : NO_SUCH;
        }
    }
}
