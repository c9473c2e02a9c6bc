import java.util.ArrayList;
import java.util.Arrays;
import java.util.List;
import java.util.Map;
import java.util.HashMap;
import java.util.TreeSet;
import java.util.regex.Matcher;
import java.util.regex.Pattern;

/**
 * The document once more, as plainly as may be: everything is reckoned anew for
 * each question, and what the document says that the machine finds, it finds.
 */
public final class PlainModel {
    private static final String[] NAMES = {"rise", "run", "fall", "mark", "stand", "near", "quick", "feet", "pit",
        "habit", "seen"};
    private static final int[][] BOUNDS = {{0, 60}, {1, 20}, {1, 9}, {0, 99}, {0, 30}, {0, 9}, {1, 18}, {1, 2}, {0, 2},
        {0, 20}, {1, 5}};
    private static final int[] USUAL = {5, 5, 5, 5, 9, 9, 9, 20, 5, 2, 15, 10, 2, 6, 1, 0, 0, 1};

    private static final class Fault extends RuntimeException {
        private static final long serialVersionUID = 1;
        final int number;
        final int place;

        Fault(int number, int place) {
            this.number = number;
            this.place = place;
        }
    }

    /** A way: xy[t][p] is X, Y. */
    private static final class Way {
        final int feet;
        final int[][][] xy;

        Way(int n, int feet) {
            this.feet = feet;
            this.xy = new int[n][4][2];
        }

        Way(Way other, int feet) {
            this(other.xy.length, feet);
            for (int i = 0; i < 8 * xy.length; i++) {
                set(i, other.get(i));
            }
        }

        int get(int i) {
            return xy[i / 8][i / 2 % 4][i % 2];
        }

        void set(int i, int v) {
            xy[i / 8][i / 2 % 4][i % 2] = v;
        }
    }

    private String tape = "";
    private int fault;
    private int torn;
    private int[] rules = USUAL.clone();
    private final Way[] ways = new Way[6];
    private List<Integer> jumpers = new ArrayList<>();
    private final Object[] sheets = new Object[4];

    private static boolean in(int v, int least, int most) {
        return least <= v && v <= most;
    }

    // ---- the text

    public int feed(long v) {
        if (tape.length() + 8 > 200) {
            return -3;
        }
        for (int shift = 56; shift >= 0; shift -= 8) {
            tape += (char) (v >> shift & 0xFF);
        }
        return tape.length();
    }

    public int end(int n) {
        if (!in(n, 0, tape.length())) {
            return -1;
        }
        int had = tape.length();
        tape = tape.substring(0, n);
        return had;
    }

    public int text() {
        String text = tape;
        tape = "";
        fault = 0;
        try {
            int[] draft = USUAL.clone();
            int lines = new Parser(text, draft).lines();
            rules = draft;
            return lines;
        } catch (Fault f) {
            fault = f.number;
            return -10 - f.place;
        }
    }

    private static final class Parser {
        private static final Pattern TOKEN = Pattern.compile(" *([a-z]+|[0-9]+|;|\\z|[\\s\\S])");
        private final Matcher matcher;
        private final int[] draft;
        private final Map<String, Boolean> told = new HashMap<>();
        private String token;
        private int place;

        Parser(String text, int[] draft) {
            this.matcher = TOKEN.matcher(text);
            this.draft = draft;
        }

        private boolean isKnown(String name) {
            return name.equals("weight") || name.equals("bend") || Arrays.asList(NAMES).contains(name);
        }

        private void next() {
            if (!matcher.find()) {
                throw new IllegalStateException("the model read past the end");
            }
            token = matcher.group(1);
            place = matcher.start(1);
            boolean fits = token.isEmpty() || token.equals(";") || token.matches("[0-9][0-9]?") || isKnown(token);
            if (!fits) {
                throw new Fault(1, place);
            }
        }

        private int number(int least, int most) {
            next();
            if (!token.matches("[0-9]+")) {
                throw new Fault(2, place);
            }
            int v = Integer.parseInt(token);
            if (v < least || v > most) {
                throw new Fault(3, place);
            }
            return v;
        }

        private void once(String what) {
            if (told.put(what, true) != null) {
                throw new Fault(4, place);
            }
        }

        int lines() {
            for (int lines = 0;; lines++) {
                next();
                if (token.isEmpty()) {
                    return lines;
                }
                if (!isKnown(token)) {
                    throw new Fault(2, place);
                }
                line(token);
                next();
                if (!token.equals(";")) {
                    throw new Fault(2, place);
                }
            }
        }

        private void line(String name) {
            if (name.equals("weight")) {
                int p = number(0, 3);
                once(name + p);
                draft[p] = number(1, 20);
            } else if (name.equals("bend")) {
                int p = number(0, 2);
                once(name + p);
                draft[4 + p] = number(1, 18);
            } else {
                once(name);
                int i = Arrays.asList(NAMES).indexOf(name);
                draft[7 + i] = number(BOUNDS[i][0], BOUNDS[i][1]);
            }
        }
    }

    public int fault() {
        return fault;
    }

    public int rule(int what) {
        return in(what, 0, 17) ? rules[what] : -1;
    }

    private int rise() {
        return rules[7];
    }

    private int run() {
        return rules[8];
    }

    private int fall() {
        return rules[9];
    }

    private int mark() {
        return rules[10];
    }

    private int stand() {
        return rules[11];
    }

    // ---- ways

    private boolean isWay(int w) {
        return in(w, 0, 5) && ways[w] != null;
    }

    private boolean isSpot(int w, int t, int p) {
        return isWay(w) && in(t, 0, ways[w].xy.length - 1) && in(p, 0, 3);
    }

    public int way(int w, int n, int feet) {
        if (!in(w, 0, 5) || !in(n, 2, 8) || !in(feet, 1, 2)) {
            return -1;
        }
        int had = ways[w] == null ? 0 : ways[w].xy.length;
        ways[w] = new Way(n, feet);
        return had;
    }

    public int put(int w, int t, int p, int x, int y) {
        if (!isSpot(w, t, p) || !in(x, -9, 9) || !in(y, -9, 9)) {
            return -1;
        }
        ways[w].xy[t][p][0] = x;
        ways[w].xy[t][p][1] = y;
        return 1;
    }

    public int at(int w, int t, int p, int what) {
        return isSpot(w, t, p) && in(what, 0, 1) ? ways[w].xy[t][p][what] : -1000;
    }

    public int of(int w, int what) {
        if (!isWay(w) || !in(what, 0, 1)) {
            return -1;
        }
        return what == 0 ? ways[w].xy.length : ways[w].feet;
    }

    public int copy(int from, int to) {
        if (!isWay(from) || !in(to, 0, 5)) {
            return -1;
        }
        ways[to] = new Way(ways[from], ways[from].feet);
        return 1;
    }

    private int weights() {
        return rules[0] + rules[1] + rules[2] + rules[3];
    }

    private int placeOf(Way way, int t, int p, int what) {
        int middle = 0;
        for (int q = 0; q < 4; q++) {
            middle += rules[q] * way.xy[t][q][what];
        }
        int path = what == 0 ? run() * t - mark() : stand() + rise() * t - fall() * t * t;
        return weights() * path + weights() * way.xy[t][p][what] - middle;
    }

    public int place(int w, int t, int p, int what) {
        return isSpot(w, t, p) && in(what, 0, 1) ? placeOf(ways[w], t, p, what) : -1000000;
    }

    private boolean isNear(Way way, int t, int p) {
        int across = placeOf(way, t, p, 0);
        int near = weights() * rules[12];
        return -near <= across && across <= near;
    }

    public int near(int w, int t, int p) {
        if (!isSpot(w, t, p)) {
            return -1;
        }
        return isNear(ways[w], t, p) ? 1 : 0;
    }

    private boolean isAcross(Way way) {
        for (int p = 0; p < 4; p++) {
            if (placeOf(way, 0, p, 0) >= 0 || placeOf(way, way.xy.length - 1, p, 0) <= 0) {
                return false;
            }
        }
        return true;
    }

    /** Every PART that is NEAR: 4 times the TENTH and the PART. */
    private List<Integer> nearSpots(Way way) {
        List<Integer> spots = new ArrayList<>();
        for (int i = 0; i < 4 * way.xy.length; i++) {
            if (isNear(way, i / 4, i % 4)) {
                spots.add(i);
            }
        }
        return spots;
    }

    private int highOf(Way way) {
        if (!isAcross(way)) {
            return -4;
        }
        int least = 999 * weights();
        for (int i : nearSpots(way)) {
            least = Math.min(least, placeOf(way, i / 4, i % 4, 1));
        }
        int high = Math.floorDiv(least, weights());
        return high < 0 ? -4 : high;
    }

    public int high(int w) {
        return isWay(w) ? highOf(ways[w]) : -1;
    }

    public int lowest(int w) {
        if (!isWay(w)) {
            return -1;
        }
        List<Integer> spots = nearSpots(ways[w]);
        if (highOf(ways[w]) == -4 || spots.isEmpty()) {
            return -4;
        }
        spots.sort((a, b) -> {
            int upA = placeOf(ways[w], a / 4, a % 4, 1);
            int upB = placeOf(ways[w], b / 4, b % 4, 1);
            return upA != upB ? Integer.compare(upA, upB) : Integer.compare(a, b);
        });
        return spots.get(0);
    }

    public int under(int w) {
        if (!isWay(w)) {
            return -1000000;
        }
        List<Integer> spots = nearSpots(ways[w]);
        if (highOf(ways[w]) == -4 || spots.isEmpty()) {
            return -1000004;
        }
        int greatest = Integer.MIN_VALUE;
        for (int i : spots) {
            int t = i / 4;
            greatest = Math.max(greatest, weights() * (stand() + rise() * t - fall() * t * t));
        }
        return greatest - weights() * highOf(ways[w]);
    }

    public int order(int w) {
        if (!isWay(w)) {
            return -1;
        }
        if (!isAcross(ways[w])) {
            return -4;
        }
        String figures = "";
        for (int t = 0; t < ways[w].xy.length; t++) {
            for (int p = 0; p < 4; p++) {
                if (placeOf(ways[w], t, p, 0) >= 0 && figures.indexOf('0' + p) < 0) {
                    figures += p;
                }
            }
        }
        return Integer.parseInt(figures, 4);
    }

    private int lowestAtEnd(Way way) {
        int t = way.xy.length - 1;
        int lowest = 0;
        for (int p = 1; p < 4; p++) {
            if (placeOf(way, t, p, 1) <= placeOf(way, t, lowest, 1)) {
                lowest = p;
            }
        }
        return lowest;
    }

    private static boolean bears(int pit, int part) {
        return pit == 2 || part == 3 || pit == 1 && part == 2;
    }

    private int barredOf(Way way) {
        for (int[][] tenth : way.xy) {
            for (int p = 0; p < 3; p++) {
                int apart = Math.abs(tenth[p][0] - tenth[p + 1][0]) + Math.abs(tenth[p][1] - tenth[p + 1][1]);
                if (apart > rules[4 + p]) {
                    return 1;
                }
            }
        }
        for (int i = 0; i + 8 < 8 * way.xy.length; i++) {
            if (Math.abs(way.get(i) - way.get(i + 8)) > rules[13]) {
                return 2;
            }
        }
        if (way.feet > rules[14]) {
            return 3;
        }
        return bears(rules[15], lowestAtEnd(way)) ? 0 : 4;
    }

    public int barred(int w) {
        return isWay(w) ? barredOf(ways[w]) : -1;
    }

    public int pits(int w) {
        if (!isWay(w)) {
            return -1;
        }
        int lowest = lowestAtEnd(ways[w]);
        return (bears(0, lowest) ? 1 : 0) + (bears(1, lowest) ? 2 : 0) + (bears(2, lowest) ? 4 : 0);
    }

    // ---- hills

    private int worthOf(Way way) {
        int high = highOf(way);
        return barredOf(way) != 0 || high == -4 ? -1 : high;
    }

    /** The WAY by a SMALL CHANGE, or null. */
    private static Way changed(Way way, int c) {
        int t = c / 16;
        int p = c / 4 % 4;
        int axis = c / 2 % 2;
        int step = c % 2 == 0 ? 1 : -1;
        if (c < 0 || t >= way.xy.length || !in(way.xy[t][p][axis] + step, -9, 9)) {
            return null;
        }
        Way other = new Way(way, way.feet);
        other.xy[t][p][axis] += step;
        return other;
    }

    public int worth(int w, int c) {
        if (!isWay(w) || !in(c, -1, 127)) {
            return -1000;
        }
        Way way = c == -1 ? ways[w] : changed(ways[w], c);
        return way == null ? -1000 : worthOf(way);
    }

    public int better(int w) {
        if (!isWay(w)) {
            return -1;
        }
        int greatest = worthOf(ways[w]);
        int best = -4;
        for (int c = 0; c < 128; c++) {
            Way way = changed(ways[w], c);
            if (way != null && worthOf(way) > greatest) {
                greatest = worthOf(way);
                best = c;
            }
        }
        return best;
    }

    public int climb(int w, int n) {
        if (!isWay(w) || !in(n, 1, 40)) {
            return -1;
        }
        int went = 0;
        while (went < n && better(w) >= 0) {
            ways[w] = changed(ways[w], better(w));
            went++;
        }
        return went;
    }

    public int around(int w, int what) {
        if (!isWay(w) || !in(what, 0, 2)) {
            return -1;
        }
        int own = worthOf(ways[w]);
        int[] sums = new int[3];
        for (int c = 0; c < 128; c++) {
            Way way = changed(ways[w], c);
            if (way != null) {
                int worth = worthOf(way);
                sums[worth == own ? 0 : worth < own ? 1 : 2]++;
            }
        }
        return sums[what];
    }

    public int valley(int from, int to, int what) {
        if (!isWay(from) || !isWay(to) || !in(what, 0, 1)) {
            return -1;
        }
        if (ways[from].xy.length != ways[to].xy.length) {
            return -2;
        }
        Way way = new Way(ways[from], ways[from].feet);
        int least = worthOf(way);
        int unlike = 0;
        for (int i = 0; i < 8 * way.xy.length; i++) {
            if (way.get(i) != ways[to].get(i)) {
                way.set(i, ways[to].get(i));
                least = Math.min(least, worthOf(way));
                unlike++;
            }
        }
        return what == 0 ? least : unlike;
    }

    private int worthOf(int w) {
        return ways[w] == null ? -1 : worthOf(ways[w]);
    }

    public int best(int what) {
        if (!in(what, 0, 1)) {
            return -1;
        }
        int best = 0;
        for (int w = 1; w < 6; w++) {
            if (worthOf(w) > worthOf(best)) {
                best = w;
            }
        }
        if (what == 1) {
            return worthOf(best);
        }
        return worthOf(best) == -1 ? -4 : best;
    }

    public int suits(int p, int v) {
        if (!in(p, 0, 3) || !in(v, 1, 20)) {
            return -1;
        }
        int[] kept = rules;
        rules = rules.clone();
        rules[p] = v;
        int best = best(0);
        rules = kept;
        return best;
    }

    // ---- crossing, jumpers

    public int pays(int a, int b, int g, int c) {
        if (!in(a, 0, 999) || !in(b, 0, 999) || !in(g, 0, 99) || !in(c, 0, 999)) {
            return -1;
        }
        for (int years = 1; years <= 50; years++) {
            int sum = 0;
            for (int y = 0; y < years; y++) {
                int jumps = b + y * g;
                sum += jumps > c ? c : jumps;
            }
            if (sum > years * a) {
                return years;
            }
        }
        return -4;
    }

    public int jumper(int w) {
        if (!in(w, 0, 5)) {
            return -1;
        }
        if (jumpers.size() == 12) {
            return -3;
        }
        jumpers.add(w);
        return jumpers.size();
    }

    public int takes(int j, int w) {
        return in(j, 0, jumpers.size() - 1) && in(w, 0, 5) ? jumpers.set(j, w) : -1;
    }

    private int[] worths() {
        int[] worths = new int[6];
        for (int w = 0; w < 6; w++) {
            worths[w] = worthOf(w);
        }
        return worths;
    }

    private List<Integer> yearBehind(List<Integer> ring, int[] worths) {
        List<Integer> then = new ArrayList<>();
        int n = ring.size();
        for (int j = 0; j < n; j++) {
            int own = ring.get(j);
            TreeSet<Integer> seen = new TreeSet<>();
            for (int far = 1; far <= rules[17]; far++) {
                seen.add(ring.get((j + far) % n));
                seen.add(ring.get((j - far + 12 * n) % n));
            }
            int best = own;
            int greatest = worths[own] + rules[16];
            for (int w : seen) {
                if (w != own && worths[w] > greatest) {
                    best = w;
                    greatest = worths[w];
                }
            }
            then.add(best);
        }
        return then;
    }

    private List<Integer> yearsBehind(List<Integer> ring, int n) {
        int[] worths = worths();
        List<Integer> then = ring;
        for (int y = 0; y < n; y++) {
            then = yearBehind(then, worths);
        }
        return then;
    }

    public int years(int n) {
        if (!in(n, 1, 20)) {
            return -1;
        }
        List<Integer> then = yearsBehind(jumpers, n);
        int bits = 0;
        for (int j = 0; j < jumpers.size(); j++) {
            if (!then.get(j).equals(jumpers.get(j))) {
                bits += 1 << j;
            }
        }
        jumpers = new ArrayList<>(then);
        return bits;
    }

    public int who(int w) {
        return in(w, 0, 5) ? (int) jumpers.stream().filter(held -> held == w).count() : -1;
    }

    public int all() {
        if (jumpers.isEmpty()) {
            return -2;
        }
        List<Integer> then = jumpers;
        for (int y = 0; y <= 40; y++) {
            if (new TreeSet<>(then).size() == 1) {
                return y;
            }
            then = yearsBehind(then, 1);
        }
        return -4;
    }

    public int odd(int j, int w, int n) {
        if (!in(j, 0, jumpers.size() - 1) || !in(w, 0, 5) || !in(n, 0, 20)) {
            return -1;
        }
        List<Integer> ring = new ArrayList<>(jumpers);
        ring.set(j, w);
        return (int) yearsBehind(ring, n).stream().filter(held -> held == w).count();
    }

    // ---- odds

    /** How many of all (d and 1 to the power of tries) have one that is the bar or more. */
    private static int good(int high, int bar, int d, int tries) {
        if (tries == 0) {
            return 0;
        }
        int others = 1;
        for (int i = 1; i < tries; i++) {
            others *= d + 1;
        }
        int sum = 0;
        for (int e = 0; e <= d; e++) {
            sum += high - e >= bar ? others : good(high, bar, d, tries - 1);
        }
        return sum;
    }

    public int odds(int w, int bar, int d, int tries, int what) {
        if (!isWay(w) || !in(bar, 0, 999) || !in(d, 0, 20) || tries != 1 && tries != 3 || !in(what, 0, 1)) {
            return -1;
        }
        int high = highOf(ways[w]);
        if (high == -4) {
            return -2;
        }
        int above = good(high, bar, d, tries);
        int below = tries == 1 ? d + 1 : (d + 1) * (d + 1) * (d + 1);
        for (int by = below; by > 1; by--) {
            if (above % by == 0 && below % by == 0) {
                above /= by;
                below /= by;
            }
        }
        return what == 0 ? above : below;
    }

    public int asks(int w, int d, int a, int b) {
        if (!isWay(w) || !in(d, 0, 20) || !in(a, 1, 99) || !in(b, 1, 99) || a >= b) {
            return -1;
        }
        int high = highOf(ways[w]);
        if (high == -4) {
            return -2;
        }
        int greatest = -4;
        for (int bar = 0; bar <= 999; bar++) {
            if (b * good(high, bar, d, 3) >= a * (d + 1) * (d + 1) * (d + 1)) {
                greatest = bar;
            }
        }
        return greatest;
    }

    // ---- sheets

    public int sheet(int k, int lane, int n) {
        if (!in(k, 0, 3) || !in(lane, 0, 2) || n > 64) {
            return -1;
        }
        try {
            sheets[k] = lane == 0 ? new byte[n] : lane == 1 ? new short[n] : new int[n];
            return 1;
        } catch (NegativeArraySizeException e) {
            return -10 - 4;
        }
    }

    public int lay(int k, int i, int v) {
        if (!in(k, 0, 3)) {
            return -1;
        }
        try {
            if (sheets[k] instanceof byte[]) {
                ((byte[]) sheets[k])[i] = (byte) v;
            } else if (sheets[k] instanceof short[]) {
                ((short[]) sheets[k])[i] = (short) v;
            } else {
                ((int[]) sheets[k])[i] = v;
            }
            return 1;
        } catch (NullPointerException e) {
            return -10 - 1;
        } catch (ArrayIndexOutOfBoundsException e) {
            return -10 - 2;
        }
    }

    private static int cell(Object row, int lane, int i) {
        return lane == 0 ? ((byte[]) row)[i] : lane == 1 ? ((short[]) row)[i] : ((int[]) row)[i];
    }

    public int film(int w, int k, int lane, int f, int n, int feet) {
        if (!in(w, 0, 5) || !in(k, 0, 3) || !in(lane, 0, 2) || !in(n, 2, 8) || !in(feet, 1, 2)) {
            return -1;
        }
        List<int[]> whole = new ArrayList<>();
        int found = 0;
        try {
            for (int t = 0; t < n; t++) {
                int[] tenth = new int[8];
                for (int i = 0; i < 8; i++) {
                    tenth[i] = cell(sheets[k], lane, f + 8 * t + i);
                }
                for (int v : tenth) {
                    if (!in(v, -9, 9)) {
                        return -20 - t;
                    }
                }
                whole.add(tenth);
            }
        } catch (NullPointerException e) {
            found = 1;
        } catch (ArrayIndexOutOfBoundsException e) {
            found = 2;
        } catch (ClassCastException e) {
            found = 3;
        }
        torn = found;
        if (whole.size() < 2) {
            return 0;
        }
        ways[w] = new Way(whole.size(), feet);
        for (int i = 0; i < 8 * whole.size(); i++) {
            ways[w].set(i, whole.get(i / 8)[i % 8]);
        }
        return whole.size();
    }

    public int torn() {
        return torn;
    }

    public int count(int what) {
        int there = 0;
        int tenths = 0;
        for (Way way : ways) {
            there += way == null ? 0 : 1;
            tenths += way == null ? 0 : way.xy.length;
        }
        int cells = sheets[0] == null ? -4 : java.lang.reflect.Array.getLength(sheets[0]);
        int[] all = {there, tenths, jumpers.size(), new TreeSet<>(jumpers).size(), tape.length(), cells};
        return in(what, 0, 5) ? all[what] : -1;
    }
}
