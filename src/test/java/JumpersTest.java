/** Promises 27 to 35: crossing, jumpers, odds. */
public final class JumpersTest {
    private static final int[] NO_NUMBERS = {-1, 6, Integer.MIN_VALUE, Integer.MAX_VALUE};

    private static final Bench bench = new Bench();

    public static void main(String[] args) {
        pays();
        jumper();
        takes();
        years();
        habit();
        who();
        all();
        odd();
        odds();
        oddsRefused();
        asks();
        bench.finish("JumpersTest");
    }

    private static void duePays(int a, int b, int g, int c, int want) {
        bench.due(27, "pays(" + a + ", " + b + ", " + g + ", " + c + ")", new OverABar().pays(a, b, g, c), want);
    }

    private static void pays() {
        duePays(50, 51, 0, 51, 1);
        duePays(50, 50, 0, 50, -4);
        duePays(50, 50, 1, 60, 2);
        // 40, 43, 46, 49, 52, 55, 58, 61: 404 above 400
        duePays(50, 40, 3, 70, 8);
        // 22 behind at most, then 2 more, and 5 each year: even in the ninth
        duePays(50, 40, 3, 55, 10);
        duePays(50, 60, 9, 50, -4);
        duePays(5, 5, 5, 0, -4);
        duePays(0, 0, 0, 0, -4);
        // 48 behind, then 1 more each year: even in the 49th
        duePays(100, 52, 49, 101, 50);
        duePays(100, 51, 50, 101, -4);
        duePays(0, 0, 99, 999, 2);
        duePays(0, 999, 99, 999, 1);
        duePays(999, 999, 99, 999, -4);
        int max = Integer.MAX_VALUE;
        int min = Integer.MIN_VALUE;
        int[][] wrong = {{-1, 0, 0, 0}, {1000, 0, 0, 0}, {0, -1, 0, 0}, {0, 1000, 0, 0}, {0, 1, -1, 1}, {0, 1, 100, 1},
            {0, 1, 0, -1}, {0, 1, 0, 1000}, {max, 1, 1, 1}, {1, max, 1, max}, {1, 1, max, 1}, {min, 1, 1, 1}};
        for (int[] a : wrong) {
            duePays(a[0], a[1], a[2], a[3], -1);
        }
    }

    private static void jumper() {
        OverABar x = new OverABar();
        for (int w : NO_NUMBERS) {
            bench.due(28, "jumper(" + w + ")", x.jumper(w), -1);
        }
        for (int j = 1; j <= 12; j++) {
            bench.due(28, "jumper " + j, x.jumper(j % 6), j);
        }
        bench.due(28, "jumper 13", x.jumper(0), -3);
        bench.due(28, "jumper(6), FULL", x.jumper(6), -1);
        bench.due(28, "count(2)", x.count(2), 12);
        bench.due(28, "who(5)", x.who(5), 2);
    }

    private static void takes() {
        OverABar x = new OverABar();
        bench.due(29, "takes of none", x.takes(0, 0), -1);
        x.jumper(3);
        x.jumper(4);
        bench.due(29, "takes(1, 5)", x.takes(1, 5), 4);
        bench.due(29, "takes(1, 5)", x.takes(1, 5), 5);
        bench.due(29, "takes(0, 0)", x.takes(0, 0), 3);
        bench.due(29, "takes(2, 0)", x.takes(2, 0), -1);
        bench.due(29, "takes(-1, 0)", x.takes(-1, 0), -1);
        bench.due(29, "takes(12, 0)", x.takes(12, 0), -1);
        for (int w : NO_NUMBERS) {
            bench.due(29, "takes(0, " + w + ")", x.takes(0, w), -1);
        }
        bench.due(29, "it stays", x.who(0), 1);
    }

    /** WORTH: WAY 0 52, WAYS 1 and 2 53, WAY 3 -1 (BARRED), WAYS 4 and 5 are none. */
    private static OverABar ring(String text, int... held) {
        OverABar x = Bench.told(text);
        x.way(0, 7, 1);
        x.way(1, 7, 1);
        x.put(1, 3, 3, 4, -4);
        x.copy(1, 2);
        x.way(3, 7, 2);
        for (int w : held) {
            x.jumper(w);
        }
        return x;
    }

    private static void dueHeld(int promise, OverABar x, int... want) {
        for (int j = 0; j < want.length; j++) {
            int w = x.takes(j, 0);
            x.takes(j, w);
            bench.due(promise, "the WAY of JUMPER " + j, w, want[j]);
        }
    }

    private static void years() {
        OverABar x = ring("", 0, 0, 1, 0, 0, 0);
        bench.due(30, "years(1)", x.years(1), 2 + 8);
        dueHeld(30, x, 0, 1, 1, 1, 0, 0);
        bench.due(30, "years(1): round the ring, too", x.years(1), 1 + 16);
        bench.due(30, "years(1)", x.years(1), 32);
        bench.due(30, "years(20)", x.years(20), 0);
        x = ring("", 1, 0, 0, 0, 0);
        bench.due(30, "years(1) by the ends", x.years(1), 2 + 16);
        x = ring("seen 2;", 0, 0, 0, 1, 0, 0, 0, 0, 0);
        bench.due(30, "years(1), two places", x.years(1), 2 + 4 + 16 + 32);
        x = ring("seen 5;", 0, 1, 0);
        bench.due(30, "years(1), farther than the ring", x.years(1), 1 + 4);
        bench.due(30, "one alone", ring("", 0).years(3), 0);
        bench.due(30, "none", ring("").years(3), 0);
        // of several the least number, but its own ahead
        x = ring("", 2, 0, 1);
        bench.due(30, "years(1) of several", x.years(1), 2);
        dueHeld(30, x, 2, 1, 1);
        // what is BARRED or none is all as little
        x = ring("", 5, 3, 4);
        bench.due(30, "years(2), WORTH -1", x.years(2), 0);
        x = ring("", 5, 0, 3);
        bench.due(30, "years(1) from WORTH -1", x.years(1), 1 + 4);
        for (int n : new int[] {0, -1, 21, Integer.MAX_VALUE, Integer.MIN_VALUE}) {
            bench.due(30, "years(" + n + ")", x.years(n), -1);
        }
        x = ring("", 0, 0, 0, 0, 0, 0, 0, 0, 0, 0, 0, 1);
        bench.due(30, "years(1) of twelve", x.years(1), 1 + 1024);
        x = ring("", 0, 0, 1, 0, 0, 0);
        bench.due(30, "years(2)", x.years(2), 1 + 2 + 8 + 16);
    }

    private static void habit() {
        OverABar x = ring("habit 1;", 0, 1, 0);
        bench.due(30, "years(1), habit makes it as great", x.years(1), 0);
        x = ring("habit 20;", 5, 0, 3);
        bench.due(30, "years(1), habit too little", x.years(1), 1 + 4);
        // WORTH 0 and its own -1 with habit 1
        x = Bench.told("stand 18;rise 0;habit 1;");
        x.way(0, 7, 1);
        x.jumper(5);
        x.jumper(0);
        bench.due(30, "years(1), WORTH -1 and habit 1", x.years(1), 0);
        Bench.tell(x, "stand 18;rise 0;habit 0;");
        bench.due(30, "years(1), WORTH -1", x.years(1), 1);
    }

    private static void who() {
        OverABar x = ring("", 0, 5, 1, 5);
        bench.due(31, "who(0)", x.who(0), 1);
        bench.due(31, "who(5)", x.who(5), 2);
        bench.due(31, "who(2)", x.who(2), 0);
        for (int w : NO_NUMBERS) {
            bench.due(31, "who(" + w + ")", x.who(w), -1);
        }
    }

    private static void all() {
        bench.due(32, "all() of none", ring("").all(), -2);
        bench.due(32, "all() of one", ring("", 4).all(), 0);
        bench.due(32, "all(), they do", ring("", 4, 4, 4).all(), 0);
        OverABar x = ring("", 0, 0, 0, 0, 0, 1, 0, 0, 0, 0, 0, 0);
        bench.due(32, "all()", x.all(), 6);
        bench.due(32, "JUMPERS stay", x.who(1), 1);
        Bench.tell(x, "seen 2;");
        bench.due(32, "all(), seen 2", x.all(), 3);
        Bench.tell(x, "seen 5;");
        bench.due(32, "all(), seen 5", x.all(), 2);
        Bench.tell(x, "habit 1;");
        bench.due(32, "all(), habit 1", x.all(), -4);
        bench.due(32, "all(), two as great", ring("", 1, 2).all(), -4);
    }

    private static void odd() {
        OverABar x = ring("", 0, 0, 0, 0, 0, 0, 0, 0, 0, 0, 0, 0);
        for (int n = 0; n <= 20; n++) {
            bench.due(33, "odd(4, 1, " + n + ")", x.odd(4, 1, n), Math.min(12, 1 + 2 * n));
        }
        bench.due(33, "JUMPERS stay", x.who(0), 12);
        bench.due(33, "odd(11, 5, 0)", x.odd(11, 5, 0), 1);
        bench.due(33, "odd(11, 5, 1)", x.odd(11, 5, 1), 0);
        x.takes(5, 1);
        bench.due(33, "odd(0, 1, 0), the others as they are", x.odd(0, 1, 0), 2);
        bench.due(33, "odd(5, 0, 20)", x.odd(5, 0, 20), 12);
        bench.due(33, "JUMPERS stay", x.who(1), 1);
        bench.due(33, "odd(12, 0, 1)", x.odd(12, 0, 1), -1);
        bench.due(33, "odd(-1, 0, 1)", x.odd(-1, 0, 1), -1);
        bench.due(33, "odd(0, 0, -1)", x.odd(0, 0, -1), -1);
        bench.due(33, "odd(0, 0, 21)", x.odd(0, 0, 21), -1);
        for (int w : NO_NUMBERS) {
            bench.due(33, "odd(0, " + w + ", 1)", x.odd(0, w, 1), -1);
        }
        bench.due(33, "odd(1, 0, 0) of one", ring("", 0).odd(1, 0, 0), -1);
    }

    private static void dueOdds(OverABar x, int bar, int d, int tries, int above, int below) {
        String call = "odds(0, " + bar + ", " + d + ", " + tries + ", ";
        bench.due(34, call + "0)", x.odds(0, bar, d, tries, 0), above);
        bench.due(34, call + "1)", x.odds(0, bar, d, tries, 1), below);
    }

    private static void odds() {
        OverABar x = ring("");
        dueOdds(x, 52, 0, 1, 1, 1);
        dueOdds(x, 53, 0, 1, 0, 1);
        dueOdds(x, 53, 20, 3, 0, 1);
        dueOdds(x, 52, 1, 1, 1, 2);
        dueOdds(x, 52, 1, 3, 7, 8);
        dueOdds(x, 51, 3, 1, 1, 2);
        dueOdds(x, 51, 3, 3, 7, 8);
        dueOdds(x, 52, 20, 1, 1, 21);
        dueOdds(x, 52, 20, 3, 9261 - 8000, 9261);
        // 9261 - 729 = 8532: by 27 (3 of 21 are 1 of 7)
        dueOdds(x, 41, 20, 3, 316, 343);
        dueOdds(x, 32, 20, 1, 1, 1);
        dueOdds(x, 33, 20, 1, 20, 21);
        dueOdds(x, 0, 20, 3, 1, 1);
        dueOdds(x, 999, 20, 1, 0, 1);
        Bench.tell(x, "run 20;mark 10;");
        x.way(0, 2, 1);
        dueOdds(x, 999, 0, 1, 1, 1);
        dueOdds(x, 998, 2, 1, 2, 3);
        // FEET do not change HIGH
        x.way(0, 2, 2);
        dueOdds(x, 999, 4, 1, 1, 5);
    }

    private static void oddsRefused() {
        OverABar x = ring("");
        int[][] wrong = {{4, 1, 1, 1, 0}, {-1, 1, 1, 1, 0}, {6, 1, 1, 1, 0}, {0, -1, 1, 1, 0}, {0, 1000, 1, 1, 0},
            {0, 1, -1, 1, 0}, {0, 1, 21, 1, 0}, {0, 1, 1, 0, 0}, {0, 1, 1, 2, 0}, {0, 1, 1, 4, 0}, {0, 1, 1, -1, 0},
            {0, 1, 1, 1, 2}, {0, 1, 1, 1, -1}};
        for (int[] a : wrong) {
            bench.due(34, "odds wrong", x.odds(a[0], a[1], a[2], a[3], a[4]), -1);
        }
        x.way(0, 4, 1);
        bench.due(34, "odds, HIGH is NONE", x.odds(0, 1, 1, 1, 0), -2);
        bench.due(34, "odds wrong, HIGH is NONE", x.odds(0, 1, 1, 1, 2), -1);
        bench.due(35, "asks, HIGH is NONE", x.asks(0, 1, 1, 2), -2);
        bench.due(35, "asks wrong, HIGH is NONE", x.asks(0, 1, 2, 2), -1);
    }

    private static void dueAsks(OverABar x, int d, int a, int b, int want) {
        bench.due(35, "asks(0, " + d + ", " + a + ", " + b + ")", x.asks(0, d, a, b), want);
    }

    private static void asks() {
        OverABar x = ring("");
        dueAsks(x, 0, 98, 99, 52);
        // at 52: 7 by 8
        dueAsks(x, 1, 7, 8, 52);
        dueAsks(x, 1, 8, 9, 51);
        // at 52: 1 - 1000 / 1331, at 51: 1 - 729 / 1331, at 50: 819 by 1331
        dueAsks(x, 10, 1, 5, 52);
        dueAsks(x, 10, 1, 4, 51);
        dueAsks(x, 10, 1, 2, 50);
        // 17 of 21 are asked: 64 by 9261 are below 1 by 99, 125 are not
        dueAsks(x, 20, 98, 99, 36);
        Bench.tell(x, "stand 20;rise 0;");
        // HIGH 2: at 0 it is 1 - 18 * 18 * 18 / 9261
        dueAsks(x, 20, 37, 99, -4);
        dueAsks(x, 20, 36, 99, 0);
        dueAsks(x, 20, 1, 8, 2);
        Bench.tell(x, "run 20;mark 10;");
        x.way(0, 2, 1);
        dueAsks(x, 0, 1, 2, 999);
        int[][] wrong = {{4, 1, 1, 2}, {-1, 1, 1, 2}, {6, 1, 1, 2}, {0, -1, 1, 2}, {0, 21, 1, 2}, {0, 1, 0, 2},
            {0, 1, 2, 1}, {0, 1, 2, 2}, {0, 1, 1, 100}, {0, 1, -1, 2}, {0, 1, 99, 99}, {0, 1, 1, 0},
            {0, 1, Integer.MIN_VALUE, 2}, {0, 1, 1, Integer.MAX_VALUE}};
        for (int[] a : wrong) {
            bench.due(35, "asks wrong", x.asks(a[0], a[1], a[2], a[3]), -1);
        }
    }
}
