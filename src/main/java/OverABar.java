/**
 * A body of four parts that bends as it goes over a bar. The words in capitals
 * are those of the document; every call answers a number and none fails.
 */
public final class OverABar {
    public static final int BAD = -1, STATE = -2, FULL = -3, NONE = -4;

    private static final int WAYS = 6, SHEETS = 4, PARTS = 4;
    private static final int BAD_NUMBER = -1000, BAD_PLACE = -1000000, NO_PLACE = -1000004;
    private static final int NO_WORTH = -1;
    private static final int MOST_CLIMB = 40, MOST_YEARS = 20, YEARS_TILL_ALL = 40, YEARS_TO_PAY = 50;
    private static final int MOST_BAR = 999, MOST_SLIP = 20;
    private static final int MOST_JUMP = 999, MOST_GAIN = 99;

    private final Tape tape;
    private final Reader reader;
    private final Rules rules;
    private final Way[] ways;
    private final Way spare;
    private final Judge judge;
    private final int[] worths;
    private final Ring ring;
    private final Sheet[] sheets;
    private int torn;

    public OverABar() {
        tape = new Tape();
        reader = new Reader();
        rules = new Rules();
        ways = new Way[WAYS];
        for (int w = 0; w < WAYS; w++) {
            ways[w] = new Way();
        }
        spare = new Way();
        judge = new Judge(rules);
        worths = new int[WAYS];
        ring = new Ring();
        sheets = new Sheet[SHEETS];
        for (int k = 0; k < SHEETS; k++) {
            sheets[k] = new Sheet();
        }
    }

    // ---- the text

    public int feed(long v) {
        return tape.addEight(v) ? tape.length : FULL;
    }

    public int end(int n) {
        if (!within(n, 0, tape.length)) {
            return BAD;
        }
        int had = tape.length;
        tape.length = n;
        return had;
    }

    public int text() {
        int lines = reader.readText(tape);
        tape.length = 0;
        if (reader.fault != 0) {
            return -10 - reader.start;
        }
        rules.setAll(reader.draft);
        return lines;
    }

    public int fault() {
        return reader.fault;
    }

    public int rule(int what) {
        return within(what, 0, Rules.COUNT - 1) ? rules.values[what] : BAD;
    }

    // ---- ways

    public int way(int w, int n, int feet) {
        if (!isWayNumber(w) || !Way.canHave(n, feet)) {
            return BAD;
        }
        int had = ways[w].tenths;
        ways[w].begin(n, feet);
        return had;
    }

    public int put(int w, int t, int p, int x, int y) {
        if (!isPartOfWay(w, t, p) || !Way.isNumber(x) || !Way.isNumber(y)) {
            return BAD;
        }
        int spot = Way.spot(t, p);
        ways[w].numbers[spot] = x;
        ways[w].numbers[spot + 1] = y;
        return 1;
    }

    public int at(int w, int t, int p, int what) {
        if (!isPartOfWay(w, t, p) || !within(what, 0, 1)) {
            return BAD_NUMBER;
        }
        return ways[w].numbers[Way.spot(t, p) + what];
    }

    public int of(int w, int what) {
        if (!isWay(w) || !within(what, 0, 1)) {
            return BAD;
        }
        return what == 0 ? ways[w].tenths : ways[w].feet;
    }

    public int copy(int from, int to) {
        if (!isWay(from) || !isWayNumber(to)) {
            return BAD;
        }
        ways[to].become(ways[from]);
        return 1;
    }

    public int place(int w, int t, int p, int what) {
        if (!isPartOfWay(w, t, p) || !within(what, 0, 1)) {
            return BAD_PLACE;
        }
        return judge.placeOf(ways[w], t, p, what);
    }

    public int near(int w, int t, int p) {
        if (!isPartOfWay(w, t, p)) {
            return BAD;
        }
        return judge.isNear(judge.placeOf(ways[w], t, p, Way.X)) ? 1 : 0;
    }

    public int high(int w) {
        if (!isWay(w)) {
            return BAD;
        }
        judge.measure(ways[w]);
        return judge.clears(ways[w]);
    }

    public int lowest(int w) {
        if (!isWay(w)) {
            return BAD;
        }
        judge.measure(ways[w]);
        int t = judge.lowestTenth(ways[w]);
        if (t < 0 || judge.clears(ways[w]) == NONE) {
            return NONE;
        }
        return PARTS * t + judge.leastPart[t];
    }

    public int under(int w) {
        if (!isWay(w)) {
            return BAD_PLACE;
        }
        judge.measure(ways[w]);
        int high = judge.clears(ways[w]);
        if (high == NONE || judge.lowestTenth(ways[w]) < 0) {
            return NO_PLACE;
        }
        return judge.greatestMiddle(ways[w]) - rules.total() * high;
    }

    public int order(int w) {
        if (!isWay(w)) {
            return BAD;
        }
        judge.measure(ways[w]);
        return judge.getsAcross(ways[w]) ? judge.orderOfParts(ways[w]) : NONE;
    }

    public int barred(int w) {
        if (!isWay(w)) {
            return BAD;
        }
        judge.measure(ways[w]);
        return judge.whyBarred(ways[w]);
    }

    public int pits(int w) {
        if (!isWay(w)) {
            return BAD;
        }
        int bits = 0;
        for (int pit = 0; pit <= Judge.LAST_PIT; pit++) {
            if (Judge.pitBears(pit, ways[w])) {
                bits |= 1 << pit;
            }
        }
        return bits;
    }

    // ---- hills

    public int worth(int w, int c) {
        if (!isWay(w) || (c != -1 && !ways[w].hasChange(c))) {
            return BAD_NUMBER;
        }
        judge.measure(ways[w]);
        return c == -1 ? judge.value(ways[w]) : judge.valueWith(ways[w], c);
    }

    public int better(int w) {
        if (!isWay(w)) {
            return BAD;
        }
        judge.survey(ways[w]);
        return judge.bestChange();
    }

    public int climb(int w, int n) {
        if (!isWay(w) || !within(n, 1, MOST_CLIMB)) {
            return BAD;
        }
        for (int went = 0; went < n; went++) {
            judge.survey(ways[w]);
            int c = judge.bestChange();
            if (c < 0) {
                return went;
            }
            ways[w].change(c);
        }
        return n;
    }

    public int around(int w, int what) {
        if (!isWay(w) || !within(what, 0, 2)) {
            return BAD;
        }
        judge.survey(ways[w]);
        // the document's 0, 1, 2 (as great, lesser, greater) as a comparison answers them
        int sign = what == 2 ? 1 : -what;
        return judge.changesThatCompare(sign);
    }

    public int valley(int from, int to, int what) {
        if (!isWay(from) || !isWay(to) || !within(what, 0, 1)) {
            return BAD;
        }
        if (ways[from].tenths != ways[to].tenths) {
            return STATE;
        }
        if (what == 1) {
            return ways[from].unlikeNumbers(ways[to]);
        }
        spare.become(ways[from]);
        return judge.leastOnTheWay(spare, ways[to]);
    }

    public int best(int what) {
        if (!within(what, 0, 1)) {
            return BAD;
        }
        int w = bestWay();
        if (what == 0) {
            return w;
        }
        return w == NONE ? NO_WORTH : worths[w];
    }

    public int suits(int p, int v) {
        if (!isPart(p) || !within(v, Rules.LEAST[p], Rules.MOST[p])) {
            return BAD;
        }
        int weight = rules.values[p];
        rules.values[p] = v;
        int w = bestWay();
        rules.values[p] = weight;
        return w;
    }

    // ---- crossing, jumpers

    public int pays(int a, int b, int g, int c) {
        if (!within(a, 0, MOST_JUMP) || !within(b, 0, MOST_JUMP)
                || !within(g, 0, MOST_GAIN) || !within(c, 0, MOST_JUMP)) {
            return BAD;
        }
        int ahead = 0;
        for (int y = 1; y <= YEARS_TO_PAY; y++) {
            ahead += Math.min(b + g * (y - 1), c) - a;
            if (ahead > 0) {
                return y;
            }
        }
        return NONE;
    }

    public int jumper(int w) {
        if (!isWayNumber(w)) {
            return BAD;
        }
        return ring.join(w) ? ring.count : FULL;
    }

    public int takes(int j, int w) {
        if (!ring.has(j) || !isWayNumber(w)) {
            return BAD;
        }
        int was = ring.held[j];
        ring.held[j] = w;
        return was;
    }

    public int years(int n) {
        if (!within(n, 1, MOST_YEARS)) {
            return BAD;
        }
        ring.begin();
        goYears(n);
        int bits = ring.unlikeHeld();
        ring.keep();
        return bits;
    }

    public int who(int w) {
        return isWayNumber(w) ? ring.countIn(ring.held, w) : BAD;
    }

    public int all() {
        if (ring.count == 0) {
            return STATE;
        }
        weighWays();
        ring.begin();
        for (int y = 0; y <= YEARS_TILL_ALL; y++) {
            if (ring.isOfOneWay()) {
                return y;
            }
            ring.goYear(worths, rules);
        }
        return NONE;
    }

    public int odd(int j, int w, int n) {
        if (!ring.has(j) || !isWayNumber(w) || !within(n, 0, MOST_YEARS)) {
            return BAD;
        }
        ring.begin();
        ring.now[j] = w;
        goYears(n);
        return ring.countIn(ring.now, w);
    }

    // ---- odds

    public int odds(int w, int bar, int d, int tries, int what) {
        if (!isWay(w) || !within(bar, 0, MOST_BAR) || !within(d, 0, MOST_SLIP)
                || (tries != 1 && tries != 3) || !within(what, 0, 1)) {
            return BAD;
        }
        judge.measure(ways[w]);
        int high = judge.clears(ways[w]);
        if (high == NONE) {
            return STATE;
        }
        int cases = tries == 1 ? d + 1 : cube(d + 1);
        int good = tries == 1 ? goodSlips(high, bar, d) : goodInThree(high, bar, d);
        return dividedDown(what == 0 ? good : cases, commonDivisor(cases, good));
    }

    public int asks(int w, int d, int a, int b) {
        if (!isWay(w) || !within(d, 0, MOST_SLIP)
                || !within(a, 1, 99) || !within(b, 1, 99) || a >= b) {
            return BAD;
        }
        judge.measure(ways[w]);
        int high = judge.clears(ways[w]);
        if (high == NONE) {
            return STATE;
        }
        for (int bar = MOST_BAR; bar >= 0; bar--) {
            if (b * goodInThree(high, bar, d) >= a * cube(d + 1)) {
                return bar;
            }
        }
        return NONE;
    }

    // ---- sheets

    public int sheet(int k, int lane, int n) {
        if (!isSheet(k) || !Sheet.isLane(lane) || n > Sheet.ROOM) {
            return BAD;
        }
        if (n < 0) {
            return -10 - Sheet.SIZE_FAULT;
        }
        sheets[k].begin(lane, n);
        return 1;
    }

    public int lay(int k, int i, int v) {
        if (!isSheet(k)) {
            return BAD;
        }
        if (sheets[k].isNothing()) {
            return -10 - Sheet.NULL_FAULT;
        }
        if (!sheets[k].hasCell(i)) {
            return -10 - Sheet.INDEX_FAULT;
        }
        sheets[k].write(i, v);
        return 1;
    }

    public int film(int w, int k, int lane, int f, int n, int feet) {
        if (!isWayNumber(w) || !isSheet(k) || !Sheet.isLane(lane) || !Way.canHave(n, feet)) {
            return BAD;
        }
        int found = sheets[k].faultAs(lane);
        int came = 0;
        spare.begin(n, feet);
        while (came < n && found == 0) {
            found = sheets[k].readTenth(f, came, spare.numbers);
            if (found == 0) {
                if (!spare.isTenthInBounds(came)) {
                    return -20 - came;
                }
                came++;
            }
        }
        torn = found;
        if (came < Way.FEWEST_TENTHS) {
            return 0;
        }
        spare.tenths = came;
        ways[w].become(spare);
        return came;
    }

    public int torn() {
        return torn;
    }

    public int count(int what) {
        switch (what) {
            case 0:
                return countWays();
            case 1:
                return countTenths();
            case 2:
                return ring.count;
            case 3:
                return Integer.bitCount(ring.heldBits());
            case 4:
                return tape.length;
            case 5:
                return sheets[0].isNothing() ? NONE : sheets[0].size;
            default:
                return BAD;
        }
    }

    // ---- what the calls share

    private static boolean within(int v, int least, int most) {
        return v >= least && v <= most;
    }

    private static boolean isWayNumber(int w) {
        return within(w, 0, WAYS - 1);
    }

    private static boolean isPart(int p) {
        return within(p, 0, PARTS - 1);
    }

    private static boolean isSheet(int k) {
        return within(k, 0, SHEETS - 1);
    }

    private boolean isWay(int w) {
        return isWayNumber(w) && ways[w].tenths > 0;
    }

    private boolean isPartOfWay(int w, int t, int p) {
        return isWay(w) && within(t, 0, ways[w].tenths - 1) && isPart(p);
    }

    private void weighWays() {
        for (int w = 0; w < WAYS; w++) {
            worths[w] = NO_WORTH;
            if (isWay(w)) {
                judge.measure(ways[w]);
                worths[w] = judge.value(ways[w]);
            }
        }
    }

    private int bestWay() {
        weighWays();
        int best = NONE;
        int greatest = NO_WORTH;
        for (int w = 0; w < WAYS; w++) {
            if (worths[w] > greatest) {
                greatest = worths[w];
                best = w;
            }
        }
        return best;
    }

    private void goYears(int n) {
        weighWays();
        for (int y = 0; y < n; y++) {
            ring.goYear(worths, rules);
        }
    }

    private int countWays() {
        int there = 0;
        for (int w = 0; w < WAYS; w++) {
            if (isWay(w)) {
                there++;
            }
        }
        return there;
    }

    private int countTenths() {
        int sum = 0;
        for (int w = 0; w < WAYS; w++) {
            sum += ways[w].tenths;
        }
        return sum;
    }

    private static int goodSlips(int high, int bar, int d) {
        return Math.max(0, Math.min(d + 1, high - bar + 1));
    }

    private static int goodInThree(int high, int bar, int d) {
        return cube(d + 1) - cube(d + 1 - goodSlips(high, bar, d));
    }

    private static int cube(int v) {
        return v * v * v;
    }

    private static int dividedDown(int v, int by) {
        return by < 1 ? 0 : Math.floorDiv(v, by);
    }

    private static int commonDivisor(int a, int b) {
        int greater = a;
        int lesser = b;
        // 64 is far above what numbers below 10000 need
        for (int i = 0; i < 64 && lesser > 0; i++) {
            int rest = greater % lesser;
            greater = lesser;
            lesser = rest;
        }
        return greater;
    }

    /** THE TAPE. */
    private static final class Tape {
        static final int ROOM = 200;
        private static final int BYTES_FED = 8;

        final int[] bytes = new int[ROOM];
        int length;

        boolean addEight(long v) {
            if (length + BYTES_FED > ROOM) {
                return false;
            }
            for (int i = 0; i < BYTES_FED; i++) {
                bytes[length + i] = (int) (v >>> (56 - 8 * i)) & 255;
            }
            length += BYTES_FED;
            return true;
        }
    }

    /** What holds, numbered as rule() tells it. */
    private static final class Rules {
        static final int COUNT = 18;
        static final int BEND = 4, RISE = 7, RUN = 8, FALL = 9, MARK = 10, STAND = 11, NEAR = 12,
            QUICK = 13, FEET = 14, PIT = 15, HABIT = 16, SEEN = 17;
        static final int[] LEAST = {1, 1, 1, 1, 1, 1, 1, 0, 1, 1, 0, 0, 0, 1, 1, 0, 0, 1};
        static final int[] MOST = {20, 20, 20, 20, 18, 18, 18, 60, 20, 9, 99, 30, 9, 18, 2, 2, 20, 5};
        static final int[] USUAL = {5, 5, 5, 5, 9, 9, 9, 20, 5, 2, 15, 10, 2, 6, 1, 0, 0, 1};

        final int[] values = new int[COUNT];

        Rules() {
            System.arraycopy(USUAL, 0, values, 0, COUNT);
        }

        void setAll(int[] others) {
            System.arraycopy(others, 0, values, 0, COUNT);
        }

        /** ALL. */
        int total() {
            int sum = 0;
            for (int p = 0; p < PARTS; p++) {
                sum += values[p];
            }
            return sum;
        }

        /** Where the MIDDLE is across (up) in a TENTH. */
        int middleAt(int t, int axis) {
            if (axis == Way.X) {
                return values[RUN] * t - values[MARK];
            }
            return values[STAND] + values[RISE] * t - values[FALL] * t * t;
        }
    }

    /** Reads THE TAPE into a draft, so that a FAULT leaves what was told. */
    private static final class Reader {
        private static final int END = 0, NAME = 1, NUMBER = 2, STOP = 3;
        private static final int NO_TOKEN_FAULT = 1, STANDS_FAULT = 2, BOUNDS_FAULT = 3, AGAIN_FAULT = 4;
        private static final int NAME_COUNT = 13, NAME_ROOM = 6, MOST_FIGURES = 2;
        private static final int WEIGHT = 0, BEND = 1;
        /** From rise on a NAME's number is this much less than its rule's. */
        private static final int RULE_BEHIND_NAME = 5;
        private static final String NAMES = "weightbend  rise  run   fall  mark  stand near  quick feet  pit   habit seen  ";

        final int[] draft = new int[Rules.COUNT];
        private int told;
        /** The first byte of the latest TOKEN: where each FAULT has its place. */
        int start;
        int fault;
        private int at;
        private int kind;
        private int value;

        int readText(Tape tape) {
            System.arraycopy(Rules.USUAL, 0, draft, 0, Rules.COUNT);
            told = 0;
            fault = 0;
            at = 0;
            int lines = 0;
            while (lines <= Tape.ROOM) {
                readToken(tape);
                if (fault != 0 || kind == END) {
                    break;
                }
                readLine(tape);
                if (fault != 0) {
                    break;
                }
                lines++;
            }
            return lines;
        }

        /** Calls may go eight deep: the NUMBER that is ahead of the value is read here, not one call further down. */
        private void readLine(Tape tape) {
            if (kind != NAME) {
                fault = STANDS_FAULT;
                return;
            }
            int slot = value + RULE_BEHIND_NAME;
            if (value == WEIGHT) {
                slot = readNumber(tape, 0, PARTS - 1);
            } else if (value == BEND) {
                slot = Rules.BEND + readNumber(tape, 0, PARTS - 2);
            }
            if (fault == 0 && (told & (1 << slot)) != 0) {
                fault = AGAIN_FAULT;
            }
            if (fault != 0) {
                return;
            }
            int v = readNumber(tape, Rules.LEAST[slot], Rules.MOST[slot]);
            if (fault != 0) {
                return;
            }
            draft[slot] = v;
            told |= 1 << slot;
            readToken(tape);
            if (fault == 0 && kind != STOP) {
                fault = STANDS_FAULT;
            }
        }

        private int readNumber(Tape tape, int least, int most) {
            readToken(tape);
            if (fault != 0) {
                return 0;
            }
            if (kind != NUMBER) {
                fault = STANDS_FAULT;
                return 0;
            }
            if (!within(value, least, most)) {
                fault = BOUNDS_FAULT;
                return 0;
            }
            return value;
        }

        private void readToken(Tape tape) {
            while (at < tape.length && tape.bytes[at] == ' ') {
                at++;
            }
            start = at;
            if (at >= tape.length) {
                kind = END;
            } else if (isLetter(tape.bytes[at])) {
                takeName(tape);
            } else if (isFigure(tape.bytes[at])) {
                takeNumber(tape);
            } else if (tape.bytes[at] == ';') {
                kind = STOP;
                at++;
            } else {
                fault = NO_TOKEN_FAULT;
            }
        }

        private void takeName(Tape tape) {
            kind = NAME;
            while (at < tape.length && isLetter(tape.bytes[at])) {
                at++;
            }
            value = 0;
            while (value < NAME_COUNT && !isName(tape, value)) {
                value++;
            }
            if (value == NAME_COUNT) {
                fault = NO_TOKEN_FAULT;
            }
        }

        /** Whether the bytes from start up to at are the NAME of this number. */
        private boolean isName(Tape tape, int name) {
            if (at - start > NAME_ROOM) {
                return false;
            }
            for (int i = 0; i < NAME_ROOM; i++) {
                int sign = start + i < at ? tape.bytes[start + i] : ' ';
                if (sign != NAMES.charAt(NAME_ROOM * name + i)) {
                    return false;
                }
            }
            return true;
        }

        private void takeNumber(Tape tape) {
            kind = NUMBER;
            value = 0;
            while (at < tape.length && isFigure(tape.bytes[at])) {
                value = value * 10 + tape.bytes[at] - '0';
                at++;
            }
            if (at - start > MOST_FIGURES) {
                fault = NO_TOKEN_FAULT;
            }
        }

        private static boolean isLetter(int sign) {
            return within(sign, 'a', 'z');
        }

        private static boolean isFigure(int sign) {
            return within(sign, '0', '9');
        }
    }

    /**
     * A WAY (none, while it has no TENTHS). Its numbers stand in the order of
     * TENTH, PART, X ahead of Y: SMALL CHANGES 2 i and 2 i + 1 are of number i.
     */
    private static final class Way {
        static final int FEWEST_TENTHS = 2, MOST_TENTHS = 8;
        static final int X = 0, Y = 1;
        static final int TENTH_ROOM = 2 * PARTS;
        static final int CHANGES_OF_TENTH = 2 * TENTH_ROOM;
        private static final int FARTHEST = 9;

        final int[] numbers = new int[MOST_TENTHS * TENTH_ROOM];
        int tenths;
        int feet;

        static boolean canHave(int n, int feet) {
            return within(n, FEWEST_TENTHS, MOST_TENTHS) && within(feet, 1, 2);
        }

        static boolean isNumber(int v) {
            return within(v, -FARTHEST, FARTHEST);
        }

        static int spot(int t, int p) {
            return TENTH_ROOM * t + 2 * p;
        }

        void begin(int n, int feetNow) {
            tenths = n;
            feet = feetNow;
            for (int i = 0; i < numbers.length; i++) {
                numbers[i] = 0;
            }
        }

        void become(Way other) {
            tenths = other.tenths;
            feet = other.feet;
            System.arraycopy(other.numbers, 0, numbers, 0, numbers.length);
        }

        int countNumbers() {
            return TENTH_ROOM * tenths;
        }

        boolean isTenthInBounds(int t) {
            for (int i = TENTH_ROOM * t; i < TENTH_ROOM * (t + 1); i++) {
                if (!isNumber(numbers[i])) {
                    return false;
                }
            }
            return true;
        }

        int unlikeNumbers(Way other) {
            int unlike = 0;
            for (int i = 0; i < countNumbers(); i++) {
                if (numbers[i] != other.numbers[i]) {
                    unlike++;
                }
            }
            return unlike;
        }

        boolean hasChange(int c) {
            return within(c, 0, CHANGES_OF_TENTH * tenths - 1) && isNumber(numbers[c >> 1] + step(c));
        }

        void change(int c) {
            numbers[c >> 1] += step(c);
        }

        void changeBack(int c) {
            numbers[c >> 1] -= step(c);
        }

        private static int step(int c) {
            return (c & 1) == 0 ? 1 : -1;
        }
    }

    /**
     * Judges a WAY by what it has measured of each TENTH: a SMALL CHANGE is of
     * one TENTH, so that the others need not be measured again.
     */
    private static final class Judge {
        static final int LAST_PIT = 2;
        private static final int BENT = 1, HASTY = 2, FEET = 3, PIT = 4;
        private static final int CHANGES = Way.CHANGES_OF_TENTH * Way.MOST_TENTHS;
        /** Beyond each PLACE; as leastUp: no PART is NEAR in the TENTH. */
        private static final int FAR = 1000000;
        private static final int MOST_HIGH = 999;

        private final Rules rules;
        private final int[] leastAcross = new int[Way.MOST_TENTHS];
        private final int[] mostAcross = new int[Way.MOST_TENTHS];
        private final int[] leastUp = new int[Way.MOST_TENTHS];
        final int[] leastPart = new int[Way.MOST_TENTHS];
        private final boolean[] bent = new boolean[Way.MOST_TENTHS];
        private final boolean[] hasty = new boolean[Way.MOST_TENTHS];
        /** What survey() found: WORTH of the WAY and of each SMALL CHANGE. */
        private int own;
        private final int[] changed = new int[CHANGES];

        Judge(Rules rules) {
            this.rules = rules;
        }

        int placeOf(Way way, int t, int p, int axis) {
            return baseOf(way, t, axis) + rules.total() * way.numbers[Way.spot(t, p) + axis];
        }

        /** PLACE of a PART whose X (Y) would be 0. */
        private int baseOf(Way way, int t, int axis) {
            int base = rules.total() * rules.middleAt(t, axis);
            for (int p = 0; p < PARTS; p++) {
                base -= rules.values[p] * way.numbers[Way.spot(t, p) + axis];
            }
            return base;
        }

        boolean isNear(int across) {
            return Math.abs(across) <= rules.total() * rules.values[Rules.NEAR];
        }

        void measure(Way way) {
            for (int t = 0; t < way.tenths; t++) {
                measureTenth(way, t);
            }
        }

        private void measureTenth(Way way, int t) {
            measurePlaces(way, t);
            bent[t] = isBent(way, t);
            hasty[t] = isHasty(way, t);
            if (t > 0) {
                hasty[t - 1] = isHasty(way, t - 1);
            }
        }

        private void measurePlaces(Way way, int t) {
            int all = rules.total();
            int acrossBase = baseOf(way, t, Way.X);
            int upBase = baseOf(way, t, Way.Y);
            leastAcross[t] = FAR;
            mostAcross[t] = -FAR;
            leastUp[t] = FAR;
            for (int p = 0; p < PARTS; p++) {
                int across = acrossBase + all * way.numbers[Way.spot(t, p)];
                int up = upBase + all * way.numbers[Way.spot(t, p) + 1];
                leastAcross[t] = Math.min(leastAcross[t], across);
                mostAcross[t] = Math.max(mostAcross[t], across);
                if (up < leastUp[t] && isNear(across)) {
                    leastUp[t] = up;
                    leastPart[t] = p;
                }
            }
        }

        private boolean isBent(Way way, int t) {
            for (int p = 0; p < PARTS - 1; p++) {
                int i = Way.spot(t, p);
                int apart = Math.abs(way.numbers[i] - way.numbers[i + 2])
                    + Math.abs(way.numbers[i + 1] - way.numbers[i + 3]);
                if (apart > rules.values[Rules.BEND + p]) {
                    return true;
                }
            }
            return false;
        }

        /** Whether a number changes too much from this TENTH to the next one. */
        private boolean isHasty(Way way, int t) {
            if (t + 1 >= way.tenths) {
                return false;
            }
            int next = Way.TENTH_ROOM * (t + 1);
            for (int i = next; i < next + Way.TENTH_ROOM; i++) {
                if (Math.abs(way.numbers[i] - way.numbers[i - Way.TENTH_ROOM]) > rules.values[Rules.QUICK]) {
                    return true;
                }
            }
            return false;
        }

        // ---- of the WAY that has been measured

        boolean getsAcross(Way way) {
            return mostAcross[0] < 0 && leastAcross[way.tenths - 1] > 0;
        }

        /** The TENTH of the lowest PLACE that is NEAR, or -1. */
        int lowestTenth(Way way) {
            int lowest = -1;
            int least = FAR;
            for (int t = 0; t < way.tenths; t++) {
                if (leastUp[t] < least) {
                    least = leastUp[t];
                    lowest = t;
                }
            }
            return lowest;
        }

        /** HIGH, or NONE. */
        int clears(Way way) {
            if (!getsAcross(way)) {
                return NONE;
            }
            int t = lowestTenth(way);
            if (t < 0) {
                return MOST_HIGH;
            }
            if (leastUp[t] < 0) {
                return NONE;
            }
            return Math.min(MOST_HIGH, dividedDown(leastUp[t], rules.total()));
        }

        int greatestMiddle(Way way) {
            int greatest = -FAR;
            for (int t = 0; t < way.tenths; t++) {
                if (leastUp[t] < FAR) {
                    greatest = Math.max(greatest, rules.total() * rules.middleAt(t, Way.Y));
                }
            }
            return greatest;
        }

        int orderOfParts(Way way) {
            int figures = 0;
            for (int t = 0; t < way.tenths; t++) {
                for (int p = 0; p < PARTS; p++) {
                    if (firstAcross(way, p) == t) {
                        figures = figures * PARTS + p;
                    }
                }
            }
            return figures;
        }

        private int firstAcross(Way way, int p) {
            int t = 0;
            while (t < way.tenths && placeOf(way, t, p, Way.X) < 0) {
                t++;
            }
            return t;
        }

        int whyBarred(Way way) {
            for (int t = 0; t < way.tenths; t++) {
                if (bent[t]) {
                    return BENT;
                }
            }
            for (int t = 0; t < way.tenths; t++) {
                if (hasty[t]) {
                    return HASTY;
                }
            }
            if (way.feet > rules.values[Rules.FEET]) {
                return FEET;
            }
            return pitBears(rules.values[Rules.PIT], way) ? 0 : PIT;
        }

        static boolean pitBears(int pit, Way way) {
            int lowest = 0;
            int last = way.tenths - 1;
            for (int p = 1; p < PARTS; p++) {
                if (way.numbers[Way.spot(last, p) + 1] <= way.numbers[Way.spot(last, lowest) + 1]) {
                    lowest = p;
                }
            }
            return pit == LAST_PIT || lowest >= PARTS - 1 - pit;
        }

        /** WORTH. */
        int value(Way way) {
            if (whyBarred(way) != 0) {
                return NO_WORTH;
            }
            int high = clears(way);
            return high == NONE ? NO_WORTH : high;
        }

        // ---- hills

        /** WORTH by a SMALL CHANGE; its TENTH stays measured as changed. */
        int valueWith(Way way, int c) {
            way.change(c);
            measureTenth(way, c / Way.CHANGES_OF_TENTH);
            int worth = value(way);
            way.changeBack(c);
            return worth;
        }

        void survey(Way way) {
            measure(way);
            own = value(way);
            for (int c = 0; c < CHANGES; c++) {
                changed[c] = BAD_NUMBER;
            }
            for (int t = 0; t < way.tenths; t++) {
                int first = Way.CHANGES_OF_TENTH * t;
                for (int c = first; c < first + Way.CHANGES_OF_TENTH; c++) {
                    if (way.hasChange(c)) {
                        changed[c] = valueWith(way, c);
                    }
                }
                // the latest SMALL CHANGE left it measured as changed
                measureTenth(way, t);
            }
        }

        /** The SMALL CHANGE of CLIMB, or NONE. */
        int bestChange() {
            int best = NONE;
            int greatest = own;
            for (int c = 0; c < CHANGES; c++) {
                if (changed[c] > greatest) {
                    greatest = changed[c];
                    best = c;
                }
            }
            return best;
        }

        /** SMALL CHANGES whose WORTH is as great (0), lesser (-1), greater (1). */
        int changesThatCompare(int sign) {
            int sum = 0;
            for (int c = 0; c < CHANGES; c++) {
                if (changed[c] != BAD_NUMBER && Integer.compare(changed[c], own) == sign) {
                    sum++;
                }
            }
            return sum;
        }

        /** The least WORTH while way becomes as other, number by number. */
        int leastOnTheWay(Way way, Way other) {
            measure(way);
            int least = value(way);
            for (int i = 0; i < way.countNumbers(); i++) {
                if (way.numbers[i] != other.numbers[i]) {
                    way.numbers[i] = other.numbers[i];
                    measureTenth(way, i / Way.TENTH_ROOM);
                    least = Math.min(least, value(way));
                }
            }
            return least;
        }
    }

    /** The JUMPERS: WAYS that they have (held), and a row beside it that years change (now). */
    private static final class Ring {
        private static final int ROOM = 12;

        final int[] held = new int[ROOM];
        final int[] now = new int[ROOM];
        private final int[] then = new int[ROOM];
        int count;

        boolean join(int w) {
            if (count >= ROOM) {
                return false;
            }
            held[count] = w;
            count++;
            return true;
        }

        boolean has(int j) {
            return within(j, 0, count - 1);
        }

        void begin() {
            System.arraycopy(held, 0, now, 0, count);
        }

        void keep() {
            System.arraycopy(now, 0, held, 0, count);
        }

        void goYear(int[] worths, Rules rules) {
            for (int j = 0; j < count; j++) {
                then[j] = choice(now[j], seenBits(j, rules.values[Rules.SEEN]), worths, rules.values[Rules.HABIT]);
            }
            System.arraycopy(then, 0, now, 0, count);
        }

        private int seenBits(int j, int seen) {
            int bits = 0;
            if (count > 0) {
                for (int far = -seen; far <= seen; far++) {
                    bits |= 1 << now[Math.floorMod(j + far, count)];
                }
            }
            return bits;
        }

        private static int choice(int own, int seen, int[] worths, int habit) {
            int best = own;
            int greatest = worths[own] + habit;
            for (int w = 0; w < WAYS; w++) {
                if ((seen & (1 << w)) != 0 && worths[w] > greatest) {
                    greatest = worths[w];
                    best = w;
                }
            }
            return best;
        }

        int unlikeHeld() {
            int bits = 0;
            for (int j = 0; j < count; j++) {
                if (now[j] != held[j]) {
                    bits |= 1 << j;
                }
            }
            return bits;
        }

        int countIn(int[] row, int w) {
            int sum = 0;
            for (int j = 0; j < count; j++) {
                if (row[j] == w) {
                    sum++;
                }
            }
            return sum;
        }

        boolean isOfOneWay() {
            return countIn(now, now[0]) == count;
        }

        int heldBits() {
            int bits = 0;
            for (int j = 0; j < count; j++) {
                bits |= 1 << held[j];
            }
            return bits;
        }
    }

    /** A SHEET (nothing, until it is begun). */
    private static final class Sheet {
        static final int ROOM = 64;
        static final int NULL_FAULT = 1, INDEX_FAULT = 2, CAST_FAULT = 3, SIZE_FAULT = 4;
        private static final int BYTES = 0, SHORTS = 1, INTS = 2, NOTHING = -1;

        private int lane = NOTHING;
        int size;
        private final int[] cells = new int[ROOM];

        static boolean isLane(int lane) {
            return within(lane, BYTES, INTS);
        }

        boolean isNothing() {
            return lane == NOTHING;
        }

        boolean hasCell(int i) {
            return within(i, 0, size - 1);
        }

        void begin(int laneNow, int n) {
            lane = laneNow;
            size = n;
            for (int i = 0; i < n; i++) {
                cells[i] = 0;
            }
        }

        void write(int i, int v) {
            if (lane == BYTES) {
                cells[i] = (byte) v;
            } else if (lane == SHORTS) {
                cells[i] = (short) v;
            } else {
                cells[i] = v;
            }
        }

        /** The FAULT of taking it as of a lane, or 0. */
        int faultAs(int wanted) {
            if (isNothing()) {
                return NULL_FAULT;
            }
            return lane == wanted ? 0 : CAST_FAULT;
        }

        /** TENTH t, as from CELL f on, comes into numbers: its FAULT, or 0. */
        int readTenth(int f, int t, int[] numbers) {
            // f alone is looked at first: f and what is behind it may be more than an int holds
            if (!hasCell(f) || !hasCell(f + Way.TENTH_ROOM * (t + 1) - 1)) {
                return INDEX_FAULT;
            }
            for (int i = Way.TENTH_ROOM * t; i < Way.TENTH_ROOM * (t + 1); i++) {
                numbers[i] = cells[f + i];
            }
            return 0;
        }
    }
}
