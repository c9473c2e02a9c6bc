import java.lang.reflect.Method;
import java.util.ArrayList;
import java.util.List;
import java.util.Map;
import java.util.Random;
import java.util.TreeMap;

/** Runs of calls, the same ones each time, on the class and on PlainModel: the answers must be the same. */
public final class ModelTest {
    private static final int RUNS = 300;
    private static final int CALLS = 512;
    private static final int WRONG_SHOWN = 10;
    /** A letter for each number that a call takes: pick() says which numbers come. */
    private static final String[][] CALLS_TOLD = {
        {"fault", ""}, {"rule", "u"}, {"way", "wnf"}, {"put", "wtpxx"}, {"at", "wtpb"}, {"of", "wb"}, {"copy", "ww"},
        {"place", "wtpb"}, {"near", "wtp"}, {"high", "w"}, {"lowest", "w"}, {"under", "w"}, {"order", "w"},
        {"barred", "w"}, {"pits", "w"}, {"worth", "wc"}, {"better", "w"}, {"climb", "wl"}, {"around", "wh"},
        {"valley", "wwb"}, {"best", "b"}, {"suits", "pv"}, {"pays", "aaga"}, {"jumper", "w"}, {"takes", "jw"},
        {"years", "y"}, {"who", "w"}, {"all", ""}, {"odd", "jwy"}, {"odds", "wBdeb"}, {"asks", "wdqr"},
        {"sheet", "kLs"}, {"lay", "kiV"}, {"film", "wkLFnf"}, {"torn", ""}, {"count", "m"}, {"end", "E"}};
    private static final String[] LINES = {"weight", "bend", "rise", "run", "fall", "mark", "stand", "near", "quick",
        "feet", "pit", "habit", "seen"};
    private static final int[] MOST = {20, 18, 60, 20, 9, 99, 30, 9, 18, 2, 2, 20, 5};
    private static final int[] FAR = {Integer.MIN_VALUE, Integer.MAX_VALUE, -1, -2, 100, 1000, 65, 128, 22};

    private final Random random;
    private final OverABar x = new OverABar();
    private final PlainModel model = new PlainModel();
    private final List<String> made = new ArrayList<>();
    private final Map<String, TreeMap<Integer, Integer>> seen;
    private int calls;

    private ModelTest(long seed, Map<String, TreeMap<Integer, Integer>> seen) {
        this.random = new Random(seed);
        this.seen = seen;
    }

    public static void main(String[] args) throws ReflectiveOperationException {
        Map<String, TreeMap<Integer, Integer>> seen = new TreeMap<>();
        int wrong = 0;
        for (int run = 0; run < RUNS && wrong < WRONG_SHOWN; run++) {
            if (!new ModelTest(run, seen).isAlike()) {
                System.out.println("in run " + run);
                wrong++;
            }
        }
        if (args.length > 0) {
            seen.forEach((name, answers) -> System.out.println(name + " " + answers));
        }
        System.out.println(wrong == 0 ? "ModelTest: all answers are alike" : "ModelTest: some answers are not alike");
        System.exit(wrong == 0 ? 0 : 1);
    }

    private boolean isAlike() throws ReflectiveOperationException {
        boolean alike = tell() && begin();
        while (alike && calls < CALLS) {
            int dice = random.nextInt(60);
            if (dice == 0) {
                alike = tell();
            } else if (dice == 1) {
                alike = fillSheet();
            } else if (dice == 2) {
                alike = begin();
            } else {
                String[] told = CALLS_TOLD[random.nextInt(CALLS_TOLD.length)];
                alike = call(told[0], arguments(told[1]));
            }
        }
        return alike;
    }

    private boolean call(String name, Object... arguments) throws ReflectiveOperationException {
        // what later calls answer is free
        if (calls == CALLS) {
            return true;
        }
        calls++;
        Class<?>[] types = new Class<?>[arguments.length];
        for (int i = 0; i < types.length; i++) {
            types[i] = arguments[i] instanceof Long ? long.class : int.class;
        }
        Method ours = OverABar.class.getMethod(name, types);
        Method theirs = PlainModel.class.getMethod(name, types);
        int got = (Integer) ours.invoke(x, arguments);
        int want = (Integer) theirs.invoke(model, arguments);
        seen.computeIfAbsent(name, n -> new TreeMap<>()).merge(got, 1, Integer::sum);
        String text = name + java.util.Arrays.toString(arguments);
        made.add(text + " " + got);
        if (got != want) {
            System.out.println(text + " answered " + got + ", the model " + want + " behind "
                + made.subList(Math.max(0, made.size() - 12), made.size()));
        }
        return got == want;
    }

    private Object[] arguments(String kinds) {
        Object[] all = new Object[kinds.length()];
        for (int i = 0; i < all.length; i++) {
            all[i] = random.nextInt(80) == 0 ? FAR[random.nextInt(FAR.length)] : pick(kinds.charAt(i));
        }
        return all;
    }

    private int from(int least, int most) {
        return least + random.nextInt(most - least + 1);
    }

    private int pick(char kind) {
        switch (kind) {
            case 'w': return random.nextInt(8) == 0 ? from(-1, 6) : from(0, 3);
            case 'n': return random.nextInt(10) == 0 ? from(1, 9) : from(5, 8);
            case 'f': return random.nextInt(10) == 0 ? from(0, 3) : 1;
            case 't': return random.nextInt(10) == 0 ? from(-1, 8) : from(0, 6);
            case 'p': return random.nextInt(20) == 0 ? from(-1, 4) : from(0, 3);
            case 'x': return random.nextInt(4) == 0 ? from(-10, 10) : from(-3, 3);
            case 'b': return random.nextInt(15) == 0 ? from(-1, 2) : from(0, 1);
            case 'u': return from(-1, 18);
            case 'c': return from(-2, 128);
            case 'l': return from(0, 41);
            case 'h': return random.nextInt(15) == 0 ? from(-1, 3) : from(0, 2);
            case 'v': return from(0, 21);
            case 'a': return random.nextInt(5) == 0 ? from(-1, 1000) : from(30, 70);
            case 'g': return random.nextInt(5) == 0 ? from(-1, 100) : from(0, 5);
            case 'j': return from(-1, 12);
            case 'y': return random.nextInt(5) == 0 ? from(-1, 21) : from(0, 3);
            case 'B': return random.nextInt(5) == 0 ? from(-1, 1000) : from(0, 100);
            case 'd': return from(-1, 21);
            case 'e': return random.nextInt(8) == 0 ? from(0, 4) : 1 + 2 * from(0, 1);
            case 'q': return from(0, 60);
            case 'r': return from(40, 100);
            case 'k': return random.nextInt(10) == 0 ? from(-1, 4) : from(0, 1);
            case 'L': return random.nextInt(10) == 0 ? from(-1, 3) : from(0, 1);
            case 's': return from(-2, 66);
            case 'i': return from(-1, 64);
            case 'V': return random.nextInt(4) == 0 ? random.nextInt() : from(-10, 10);
            case 'F': return random.nextInt(4) == 0 ? from(-2, 66) : from(0, 20);
            case 'm': return from(-1, 6);
            case 'E': return from(-1, 9);
            default: throw new IllegalStateException("no such kind: " + kind);
        }
    }

    /** A WAY that may well get ACROSS without being BARRED, and copies of it. */
    private boolean begin() throws ReflectiveOperationException {
        int n = from(4, 8);
        boolean alike = call("way", 0, n, 1);
        int far = from(0, 4);
        for (int i = 0; alike && i < 14; i++) {
            alike = call("put", 0, from(0, n - 1), from(0, 3), from(-far, far), from(-far, far));
        }
        for (int w = 1; alike && w < 4; w++) {
            alike = call("copy", 0, w)
                && call("put", w, from(0, n - 1), from(0, 3), from(-far, far), from(-far, far));
        }
        return alike && call("jumper", from(0, 4)) && call("jumper", from(0, 4));
    }

    private boolean fillSheet() throws ReflectiveOperationException {
        int k = from(0, 1);
        int lane = from(0, 2);
        int n = from(0, 64);
        boolean alike = call("sheet", k, lane, n);
        for (int i = 0; alike && i < n; i++) {
            boolean odd = random.nextInt(150) == 0;
            alike = call("lay", k, i, odd ? from(-400, 400) : from(-4, 4) + 65536 * from(0, lane == 2 ? 0 : 1));
        }
        for (int i = 0; alike && i < 4; i++) {
            alike = call("film", from(0, 5), k, lane, from(0, 30), from(2, 8), from(1, 2)) && call("torn");
        }
        return alike;
    }

    private boolean tell() throws ReflectiveOperationException {
        StringBuilder text = new StringBuilder();
        boolean gentle = random.nextBoolean();
        if (gentle) {
            text.append("pit 2;quick 18;bend 0 18;bend 1 18;bend 2 18;run ").append(from(4, 8)).append(";mark ");
            text.append(from(9, 25)).append(";near ").append(from(0, 9)).append(';');
        }
        int lines = from(0, 6);
        for (int i = 0; i < lines; i++) {
            int name = from(0, LINES.length - 1);
            if (gentle && text.indexOf(LINES[name]) >= 0) {
                continue;
            }
            text.append(LINES[name]).append(random.nextInt(6) == 0 ? "" : " ");
            if (name < 2) {
                text.append(from(0, random.nextInt(8) == 0 ? 4 : 3 - name)).append(' ');
            }
            int most = MOST[name] + (random.nextInt(8) == 0 ? 1 : 0);
            text.append(from(random.nextInt(8) == 0 ? 0 : 1, Math.max(1, most)));
            text.append(random.nextInt(10) == 0 ? " ; " : ";");
        }
        for (int i = random.nextInt(4) == 0 ? from(1, 2) : 0; i > 0 && text.length() > 0; i--) {
            disturb(text);
        }
        return tape(text.toString());
    }

    private void disturb(StringBuilder text) {
        int at = random.nextInt(text.length());
        switch (from(0, 4)) {
            case 0: text.deleteCharAt(at); break;
            case 1: text.setCharAt(at, (char) from(0, 255)); break;
            case 2: text.insert(at, from(0, 99)); break;
            case 3: text.insert(at, ' '); break;
            default: text.setLength(at);
        }
    }

    private boolean tape(String text) throws ReflectiveOperationException {
        boolean alike = call("end", 0);
        for (long word : Bench.words(text)) {
            alike = alike && call("feed", word);
        }
        return alike && call("end", text.length()) && call("text") && call("fault");
    }
}
