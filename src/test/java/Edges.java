import java.lang.reflect.InvocationTargetException;
import java.lang.reflect.Method;
import java.util.ArrayList;
import java.util.Comparator;
import java.util.List;
import java.util.function.Supplier;
import java.util.function.ToIntFunction;

/**
 * What the tests of edges share. A test is a static method p07_.. of promise 7
 * that begins by saying which words of the document it holds the class to.
 */
abstract class Edges {
    static final int MIN = Integer.MIN_VALUE, MAX = Integer.MAX_VALUE;
    static final int BAD = -1, STATE = -2, FULL = -3, NONE = -4;
    static final int NO_TOKEN = 1, STANDS = 2, BOUNDS = 3, AGAIN = 4;
    static final int NULL = 1, INDEX = 2, CAST = 3, SIZE = 4;
    static final int BYTES = 0, SHORTS = 1, INTS = 2;
    /** Numbers of no WAY in any object; WAY 1 is none in crowd() as well. */
    static final int[] NO_WAY_NUMBERS = {-1, 6, MIN, MAX};
    /** Each PART weighs 1, so that PLACES are told by quarters. */
    static final String LIGHT = "weight 0 1;weight 1 1;weight 2 1;weight 3 1;";
    static final String LITHE = "bend 0 18;bend 1 18;bend 2 18;quick 18;pit 2;";

    private static Sentences sentences;
    private static boolean isListing;
    private static String name;
    private static int promise;
    private static String words;
    private static int said;
    private static int tests;
    private static int wrong;

    static void begin(Sentences all, boolean listing) {
        sentences = all;
        isListing = listing;
    }

    static int countTests() {
        return tests;
    }

    static int countWrong() {
        return wrong;
    }

    static void run(Class<?> group) throws ReflectiveOperationException {
        List<Method> methods = new ArrayList<>();
        for (Method m : group.getDeclaredMethods()) {
            if (m.getName().matches("p\\d\\d_\\w+")) {
                methods.add(m);
            }
        }
        methods.sort(Comparator.comparing(Method::getName));
        for (Method m : methods) {
            runOne(m);
        }
    }

    private static void runOne(Method m) throws ReflectiveOperationException {
        name = m.getName();
        promise = Integer.parseInt(name.substring(1, 3));
        words = "";
        said = 0;
        tests++;
        try {
            m.invoke(null);
        } catch (InvocationTargetException e) {
            fails("threw " + e.getCause());
        }
        if (said == 0) {
            fails("says no words of the document");
        }
    }

    private static void fails(String how) {
        wrong++;
        System.out.println(name + " ('" + words + "'): " + how);
    }

    /** The words that the test is of: they must stand under its promise or under the terms. */
    static void says(String quote) {
        words = quote;
        said++;
        if (isListing) {
            System.out.println(name + ": " + quote);
        }
        if (!sentences.mark(promise, quote)) {
            fails("the document has no such words there");
        }
    }

    static void due(String call, long got, long want) {
        if (got != want) {
            fails(call + " answered " + got + ", due is " + want);
        }
    }

    static void dueRow(String what, int[] got, int... want) {
        due("how many of " + what, got.length, want.length);
        for (int i = 0; i < Math.min(got.length, want.length); i++) {
            due(what + " " + i, got[i], want[i]);
        }
    }

    static void dueText(OverABar x, String text, int want, int fault) {
        Bench.lay(x, text);
        due("text() of '" + text + "'", x.text(), want);
        due("fault() of '" + text + "'", x.fault(), fault);
    }

    static void dueText(String text, int want, int fault) {
        dueText(new OverABar(), text, want, fault);
    }

    static OverABar told(String text) {
        return Bench.told(text);
    }

    /** A new object whose WAY 0 has n TENTHS of noughts. */
    static OverABar flat(String text, int n) {
        OverABar x = told(text);
        x.way(0, n, 1);
        return x;
    }

    static void putX(OverABar x, int w, int t, int... xs) {
        for (int p = 0; p < xs.length; p++) {
            x.put(w, t, p, xs[p], x.at(w, t, p, 1));
        }
    }

    static void putY(OverABar x, int w, int t, int... ys) {
        for (int p = 0; p < ys.length; p++) {
            x.put(w, t, p, x.at(w, t, p, 0), ys[p]);
        }
    }

    /** An object that has some of all: not as at first, and not FULL. */
    static OverABar crowd() {
        OverABar x = told("weight 0 6;weight 2 3;bend 1 8;rise 21;run 6;fall 3;mark 16;stand 11;near 3;quick 7;"
            + "feet 2;pit 1;habit 2;seen 2;");
        Bench.tell(x, "rise 99;");
        x.way(0, 4, 2);
        x.put(0, 0, 0, -1, 2);
        x.put(0, 3, 3, 3, -4);
        x.way(3, 2, 1);
        x.put(3, 1, 2, 5, 6);
        for (int w : new int[] {0, 3, 3, 5, 0}) {
            x.jumper(w);
        }
        // SHEET 3 has nothing
        int[] cells = {18, 0, 16};
        for (int k = 0; k < cells.length; k++) {
            x.sheet(k, k, cells[k]);
            for (int i = 0; i < cells[k]; i++) {
                x.lay(k, i, (i + k) % 19 - 9);
            }
        }
        x.film(4, 0, BYTES, 3, 2, 1);
        Bench.lay(x, "near 7; run 3");
        return x;
    }

    /** Which WAYS the JUMPERS have; they keep them. */
    static int[] held(OverABar x) {
        int[] row = new int[x.count(2)];
        for (int j = 0; j < row.length; j++) {
            row[j] = x.takes(j, 0);
            x.takes(j, row[j]);
        }
        return row;
    }

    /** All that the calls of an object like crowd() can tell of it; it is used up. */
    static List<Integer> everything(OverABar x) {
        List<Integer> all = new ArrayList<>();
        for (int what = 0; what < 6; what++) {
            all.add(x.count(what));
        }
        all.add(x.fault());
        all.add(x.torn());
        addRules(all, x);
        for (int w = 0; w < 6; w++) {
            addWay(all, x, w);
        }
        for (int w : held(x)) {
            all.add(w);
        }
        for (int k = 0; k < 4; k++) {
            addSheet(all, x, k);
        }
        all.add(x.text());
        all.add(x.fault());
        addRules(all, x);
        return all;
    }

    private static void addRules(List<Integer> all, OverABar x) {
        for (int what = 0; what < 18; what++) {
            all.add(x.rule(what));
        }
    }

    private static void addWay(List<Integer> all, OverABar x, int w) {
        int tenths = x.of(w, 0);
        all.add(tenths);
        all.add(x.of(w, 1));
        for (int i = 0; i < 8 * tenths; i++) {
            all.add(x.at(w, i / 8, i % 8 / 2, i % 2));
        }
    }

    private static void addSheet(List<Integer> all, OverABar x, int k) {
        for (int lane = 0; lane < 3; lane++) {
            int came = x.film(5, k, lane, 0, 2, 1);
            all.add(came);
            all.add(x.torn());
            if (came == 2) {
                addWay(all, x, 5);
            }
        }
        for (int i : new int[] {0, 15, 16, 17, 18}) {
            all.add(x.lay(k, i, 0));
        }
    }

    /** A call on crowd() that is refused with this answer and leaves all as it was. */
    static void refused(String call, ToIntFunction<OverABar> f, int want) {
        refused(Edges::crowd, call, f, want);
    }

    static void refused(Supplier<OverABar> maker, String call, ToIntFunction<OverABar> f, int want) {
        OverABar x = maker.get();
        due(call, f.applyAsInt(x), want);
        dueSame(call, x, maker.get());
    }

    /** A call on crowd() that only tells, and leaves all as it was. */
    static void tells(String call, ToIntFunction<OverABar> f) {
        OverABar x = crowd();
        due(call + " asked again", f.applyAsInt(x), f.applyAsInt(x));
        dueSame(call, x, crowd());
    }

    private static void dueSame(String call, OverABar x, OverABar untouched) {
        List<Integer> got = everything(x);
        List<Integer> want = everything(untouched);
        if (!got.equals(want)) {
            fails(call + " does not leave all as it was: " + got + ", due is " + want);
        }
    }
}
