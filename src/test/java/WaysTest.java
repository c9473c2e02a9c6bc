/** Promises 7 to 19: ways. */
public final class WaysTest {
    private static final int[] WRONG = {-1, 6, 1, Integer.MIN_VALUE, Integer.MAX_VALUE};

    private static final Bench bench = new Bench();

    public static void main(String[] args) {
        way();
        put();
        at();
        of();
        copy();
        place();
        near();
        high();
        across();
        lowest();
        under();
        order();
        barred();
        barredInTurn();
        pits();
        noWay();
        bench.finish("WaysTest");
    }

    /** A new object whose WAY 0 has n TENTHS of noughts. */
    private static OverABar flat(int n) {
        OverABar x = new OverABar();
        x.way(0, n, 1);
        return x;
    }

    private static OverABar flat(String text, int n) {
        OverABar x = Bench.told(text);
        x.way(0, n, 1);
        return x;
    }

    private static void way() {
        OverABar x = new OverABar();
        bench.due(7, "way(0, 2, 1)", x.way(0, 2, 1), 0);
        bench.due(7, "way(5, 8, 2)", x.way(5, 8, 2), 0);
        x.put(0, 1, 3, 4, 5);
        x.put(0, 0, 0, 6, 7);
        x.put(5, 7, 3, 4, 5);
        int[][] wrong = {{-1, 2, 1}, {6, 2, 1}, {0, 1, 1}, {0, 9, 1}, {0, -2, 1}, {0, 2, 0}, {0, 2, 3}, {0, 2, -1},
            {Integer.MAX_VALUE, 2, 1}, {0, Integer.MAX_VALUE, 1}, {0, 2, Integer.MIN_VALUE}};
        for (int[] a : wrong) {
            bench.due(7, "way(" + a[0] + ", " + a[1] + ", " + a[2] + ")", x.way(a[0], a[1], a[2]), -1);
        }
        bench.due(7, "at behind what is refused", x.at(0, 1, 3, 1), 5);
        bench.due(7, "way(0, 3, 2)", x.way(0, 3, 2), 2);
        bench.due(7, "of(0, 0)", x.of(0, 0), 3);
        bench.due(7, "of(0, 1)", x.of(0, 1), 2);
        bench.due(7, "at, anew", x.at(0, 1, 3, 1), 0);
        bench.due(7, "the first X, anew", x.at(0, 0, 0, 0), 0);
        bench.due(7, "way(5, 2, 1)", x.way(5, 2, 1), 8);
        bench.due(7, "way(5, 8, 1)", x.way(5, 8, 1), 2);
        bench.due(7, "at of a TENTH that was there ahead", x.at(5, 7, 3, 0), 0);
    }

    private static void put() {
        OverABar x = flat(3);
        bench.due(8, "put(0, 2, 3, -9, 9)", x.put(0, 2, 3, -9, 9), 1);
        bench.due(8, "X", x.at(0, 2, 3, 0), -9);
        bench.due(8, "Y", x.at(0, 2, 3, 1), 9);
        bench.due(8, "put(0, 0, 0, 9, -9)", x.put(0, 0, 0, 9, -9), 1);
        bench.due(8, "the PART beside it", x.at(0, 0, 1, 0), 0);
        int[][] wrong = {{1, 0, 0, 1, 1}, {-1, 0, 0, 1, 1}, {6, 0, 0, 1, 1}, {0, -1, 0, 1, 1}, {0, 3, 0, 1, 1},
            {0, 0, -1, 1, 1}, {0, 0, 4, 1, 1}, {0, 0, 0, 10, 1}, {0, 0, 0, -10, 1}, {0, 0, 0, 1, 10}, {0, 0, 0, 1, -10}};
        for (int[] a : wrong) {
            bench.due(8, "put wrong", x.put(a[0], a[1], a[2], a[3], a[4]), -1);
        }
        bench.due(8, "X behind what is refused", x.at(0, 0, 0, 0), 9);
        bench.due(8, "Y behind what is refused", x.at(0, 0, 0, 1), -9);
    }

    private static void at() {
        OverABar x = flat(2);
        x.put(0, 1, 2, 3, -4);
        bench.due(9, "at(0, 1, 2, 0)", x.at(0, 1, 2, 0), 3);
        bench.due(9, "at(0, 1, 2, 1)", x.at(0, 1, 2, 1), -4);
        int[][] wrong = {{1, 0, 0, 0}, {-1, 0, 0, 0}, {6, 0, 0, 0}, {0, 2, 0, 0}, {0, -1, 0, 0}, {0, 0, 4, 0},
            {0, 0, -1, 0}, {0, 0, 0, 2}, {0, 0, 0, -1}, {0, Integer.MAX_VALUE, 0, 0}, {0, 0, Integer.MIN_VALUE, 0}};
        for (int[] a : wrong) {
            bench.due(9, "at wrong", x.at(a[0], a[1], a[2], a[3]), -1000);
            bench.due(12, "place wrong", x.place(a[0], a[1], a[2], a[3]), -1000000);
        }
    }

    private static void of() {
        OverABar x = new OverABar();
        x.way(2, 5, 2);
        bench.due(10, "of(2, 0)", x.of(2, 0), 5);
        bench.due(10, "of(2, 1)", x.of(2, 1), 2);
        bench.due(10, "of(2, 2)", x.of(2, 2), -1);
        bench.due(10, "of(2, -1)", x.of(2, -1), -1);
        bench.due(10, "of(1, 0)", x.of(1, 0), -1);
    }

    private static void copy() {
        OverABar x = new OverABar();
        x.way(2, 5, 2);
        x.put(2, 4, 3, 7, -7);
        bench.due(11, "copy(2, 2)", x.copy(2, 2), 1);
        bench.due(11, "copy(2, 5)", x.copy(2, 5), 1);
        bench.due(11, "of(5, 0)", x.of(5, 0), 5);
        bench.due(11, "of(5, 1)", x.of(5, 1), 2);
        bench.due(11, "at(5, 4, 3, 1)", x.at(5, 4, 3, 1), -7);
        x.put(2, 4, 3, 1, 1);
        bench.due(11, "the copy stays as it was", x.at(5, 4, 3, 1), -7);
        bench.due(11, "copy(0, 5)", x.copy(0, 5), -1);
        bench.due(11, "copy(-1, 5)", x.copy(-1, 5), -1);
        bench.due(11, "copy(6, 5)", x.copy(6, 5), -1);
        bench.due(11, "copy(2, 6)", x.copy(2, 6), -1);
        bench.due(11, "copy(2, -1)", x.copy(2, -1), -1);
        bench.due(11, "of behind what is refused", x.of(5, 0), 5);
    }

    private static void place() {
        // ALL 1 + 2 + 3 + 4; in TENTH 2 the MIDDLE goes 2 * 3 - 5 across, 7 + 2 * 11 - 4 * 2 up
        OverABar x = flat("weight 0 1;weight 1 2;weight 2 3;weight 3 4;rise 11;run 3;fall 2;mark 5;stand 7;", 3);
        x.put(0, 2, 0, 1, 2);
        x.put(0, 2, 1, -3, 4);
        x.put(0, 2, 2, 5, -6);
        x.put(0, 2, 3, 7, 8);
        // MIDDLE: X 1 - 6 + 15 + 28 = 38, Y 2 + 8 - 18 + 32 = 24
        int[] across = {10 + 10 - 38, 10 - 30 - 38, 10 + 50 - 38, 10 + 70 - 38};
        int[] up = {210 + 20 - 24, 210 + 40 - 24, 210 - 60 - 24, 210 + 80 - 24};
        for (int p = 0; p < 4; p++) {
            bench.due(12, "place(0, 2, " + p + ", 0)", x.place(0, 2, p, 0), across[p]);
            bench.due(12, "place(0, 2, " + p + ", 1)", x.place(0, 2, p, 1), up[p]);
        }
        bench.due(12, "place(0, 0, 3, 0)", x.place(0, 0, 3, 0), -50);
        bench.due(12, "place(0, 1, 3, 1)", x.place(0, 1, 3, 1), 160);
    }

    private static void near() {
        OverABar x = flat(7);
        // in TENTH 3 the MIDDLE is at 0; NEAR is up to 40 either side
        x.put(0, 3, 0, 2, 0);
        x.put(0, 3, 3, -2, 0);
        bench.due(13, "place 40", x.place(0, 3, 0, 0), 40);
        bench.due(13, "near at 40", x.near(0, 3, 0), 1);
        bench.due(13, "near at -40", x.near(0, 3, 3), 1);
        bench.due(13, "near at 0", x.near(0, 3, 1), 1);
        x.put(0, 3, 0, 3, 0);
        x.put(0, 3, 1, -1, 0);
        bench.due(13, "near at 60", x.near(0, 3, 0), 0);
        x.put(0, 3, 3, -3, 0);
        x.put(0, 3, 1, 0, 0);
        bench.due(13, "near at -60", x.near(0, 3, 3), 0);
        bench.due(13, "near, TENTH 2", x.near(0, 2, 0), 0);
        bench.due(13, "near(0, 7, 0)", x.near(0, 7, 0), -1);
        bench.due(13, "near(0, -1, 0)", x.near(0, -1, 0), -1);
        bench.due(13, "near(0, 0, 4)", x.near(0, 0, 4), -1);
        bench.due(13, "near(0, 0, -1)", x.near(0, 0, -1), -1);
        Bench.tell(x, "near 0;");
        bench.due(13, "near 0 at 0", x.near(0, 3, 1), 1);
        x.put(0, 3, 1, 1, 0);
        bench.due(13, "near 0 beside 0", x.near(0, 3, 1), 0);
    }

    private static void high() {
        OverABar x = flat(7);
        bench.due(14, "high(0)", x.high(0), 52);
        x.put(0, 3, 0, 0, 1);
        // the other three are at 1035 by 20
        bench.due(14, "high(0), divided down", x.high(0), 51);
        x.put(0, 3, 0, 0, 0);
        x.put(0, 4, 0, 0, -9);
        bench.due(14, "what is not NEAR does not count", x.high(0), 52);
        // NEAR in TENTHS 2, 3 and 4
        Bench.tell(x, "near 5;");
        x.put(0, 4, 0, 0, 0);
        bench.due(14, "high(0), NEAR in three TENTHS", x.high(0), 42);
        // 18 - 2 * 9 in TENTH 3
        x = flat("stand 18;rise 0;", 7);
        bench.due(14, "high(0) of 0", x.high(0), 0);
        x.put(0, 3, 0, 0, 1);
        bench.due(14, "the least PLACE is -5", x.place(0, 3, 1, 1), -5);
        bench.due(14, "high(0), a little below 0", x.high(0), -4);
        x = flat("run 20;mark 10;", 2);
        bench.due(14, "high(0), none ever NEAR", x.high(0), 999);
    }

    private static void across() {
        // the MIDDLE is at 0 in TENTH 3
        bench.due(14, "the last TENTH at 0", flat(4).high(0), -4);
        bench.due(14, "the last TENTH above 0", flat(5).high(0), 52);
        OverABar x = flat("mark 0;", 3);
        bench.due(14, "TENTH 0 at 0", x.high(0), -4);
        bench.due(17, "order, TENTH 0 at 0", x.order(0), -4);
        x = flat("mark 1;run 2;", 2);
        bench.due(14, "TENTH 0 at -20", x.high(0), 10);
        x.put(0, 0, 2, 1, 0);
        x.put(0, 0, 1, -1, 0);
        bench.due(14, "one PART of TENTH 0 at 0", x.high(0), -4);
        x.put(0, 0, 2, 0, 0);
        x.put(0, 0, 1, 0, 0);
        x.put(0, 1, 0, -1, 0);
        x.put(0, 1, 3, 1, 0);
        bench.due(14, "PART 0 of the last TENTH at 0", x.high(0), -4);
        for (int p = 1; p < 4; p++) {
            x.way(0, 2, 1);
            x.put(0, 1, p, -1, 0);
            x.put(0, 1, p - 1, 1, 0);
            bench.due(14, "PART " + p + " of the last TENTH at 0", x.high(0), -4);
            x.way(0, 2, 1);
            x.put(0, 0, p, 1, 0);
            x.put(0, 0, p - 1, -1, 0);
            bench.due(14, "PART " + p + " of TENTH 0 at 0", x.high(0), -4);
        }
        x.way(0, 2, 1);
        x.put(0, 0, 0, 1, 0);
        x.put(0, 0, 1, -1, 0);
        bench.due(14, "PART 0 of TENTH 0 at 0", x.high(0), -4);
        bench.due(20, "worth", x.worth(0, -1), -1);
        x = flat("mark 1;run 2;weight 0 1;weight 1 1;weight 2 1;weight 3 1;", 2);
        x.put(0, 0, 0, 1, 0);
        x.put(0, 1, 0, -1, 0);
        bench.due(14, "TENTH 0 at -1", x.place(0, 0, 0, 0), -1);
        bench.due(14, "the last TENTH at 1", x.place(0, 1, 0, 0), 1);
        bench.due(14, "high(0)", x.high(0), 10);
    }

    private static void lowest() {
        OverABar x = flat(7);
        bench.due(15, "lowest(0), of several", x.lowest(0), 12);
        x.put(0, 3, 0, 0, 1);
        bench.due(15, "lowest(0)", x.lowest(0), 13);
        x.put(0, 3, 3, 0, -1);
        bench.due(15, "lowest(0)", x.lowest(0), 15);
        x = flat(7);
        // alike divided down, but the PLACE of PART 2 is the least
        x.put(0, 3, 2, 0, -1);
        x.put(0, 3, 1, 0, -1);
        x.put(0, 3, 0, 0, -1);
        x.put(0, 3, 3, 0, -1);
        Bench.tell(x, "weight 0 20;weight 1 20;weight 2 20;weight 3 20;near 9;fall 1;rise 0;stand 30;");
        // TENTHS 2 to 4 are NEAR: 26, 21, 14 up; the last counts
        bench.due(15, "lowest(0), TENTH 4", x.lowest(0), 16);
        x = flat("near 9;rise 7;fall 1;", 7);
        // TENTHS 2 to 4: 20, 22, 22 up
        bench.due(15, "lowest(0), TENTH 2", x.lowest(0), 8);
        x = flat("near 9;rise 6;fall 1;", 7);
        // 18, 19, 18 up: the first of two
        bench.due(15, "lowest(0), two TENTHS alike", x.lowest(0), 8);
        bench.due(15, "lowest(0), TENTH 0", flat("mark 1;run 2;", 2).lowest(0), 0);
        bench.due(15, "lowest(0), the last TENTH", flat("mark 1;run 2;rise 0;", 2).lowest(0), 4);
        bench.due(15, "HIGH is NONE", flat(4).lowest(0), -4);
        bench.due(15, "none ever NEAR", flat("run 20;mark 10;", 2).lowest(0), -4);
        bench.due(15, "below 0", flat("stand 0;rise 0;", 7).lowest(0), -4);
    }

    private static void under() {
        OverABar x = flat(7);
        bench.due(16, "under(0)", x.under(0), 0);
        x.put(0, 3, 0, 0, 1);
        bench.due(16, "under(0), HIGH 51", x.under(0), 20);
        x.put(0, 3, 0, 0, 0);
        x.put(0, 3, 3, 4, -4);
        // PART 3 is low, but 60 across; the others are at 1060
        bench.due(16, "high(0)", x.high(0), 53);
        bench.due(16, "under(0) below 0", x.under(0), -20);
        x = flat("near 9;", 7);
        // TENTHS 2 to 4: 42, 52, 58
        bench.due(16, "under(0), the greatest of several TENTHS", x.under(0), 320);
        // TENTHS 0 and 1: 10, 28; 10, 8
        bench.due(16, "under(0), TENTH 0 sets HIGH", flat("mark 1;run 2;", 2).under(0), 360);
        bench.due(16, "under(0), TENTH 0 is the greatest", flat("mark 1;run 2;rise 0;", 2).under(0), 40);
        bench.due(16, "under(0) of 8 TENTHS", flat(8).under(0), 0);
        bench.due(16, "HIGH is NONE", flat(4).under(0), -1000004);
        bench.due(16, "none ever NEAR", flat("run 20;mark 10;", 2).under(0), -1000004);
        bench.due(16, "under(1)", x.under(1), -1000000);
        bench.due(16, "under(6)", x.under(6), -1000000);
    }

    private static void order() {
        OverABar x = flat(7);
        bench.due(17, "order(0), all at once", x.order(0), 27);
        // in TENTH 3: PART 3 ahead, PART 0 behind
        x.put(0, 3, 3, 1, 0);
        x.put(0, 3, 0, -1, 0);
        bench.due(17, "order(0): 1 2 3 0", x.order(0), 16 * 4 + 2 * 16 + 3 * 4);
        x.put(0, 2, 3, 9, 0);
        bench.due(17, "PART 3 in TENTH 2", x.place(0, 2, 3, 0), 35);
        bench.due(17, "order(0): 3 1 2 0", x.order(0), 3 * 64 + 16 + 2 * 4);
        // once across, a PART may go back
        x.put(0, 3, 3, -9, 0);
        bench.due(17, "PART 3 in TENTH 3", x.place(0, 3, 3, 0) < 0 ? 1 : 0, 1);
        bench.due(17, "order(0): 3 0 1 2", x.order(0), 3 * 64 + 4 + 2);
        bench.due(17, "not ACROSS", flat(4).order(0), -4);
        bench.due(17, "HIGH is NONE, but it gets ACROSS", flat("stand 0;rise 0;", 7).order(0), 27);
    }

    private static void barred() {
        for (int p = 0; p < 3; p++) {
            OverABar x = flat("bend " + p + " 4;quick 18;pit 2;", 7);
            x.put(0, 2, p, 2, -1);
            x.put(0, 2, p + 1, 0, 1);
            bench.due(18, "BEND " + p + " of 4", x.barred(0), 0);
            x.put(0, 2, p + 1, 0, 2);
            bench.due(18, "BEND " + p + " of 5", x.barred(0), 1);
            x.put(0, 2, p, -3, 0);
            x.put(0, 2, p + 1, 0, 2);
            bench.due(18, "BEND " + p + " of -3, 2", x.barred(0), 1);
            x.way(0, 7, 1);
            x.put(0, 0, p, 5, 0);
            bench.due(18, "BEND " + p + " of 5 in TENTH 0", x.barred(0), 1);
            x.way(0, 7, 1);
            x.put(0, 6, p, 5, 0);
            bench.due(18, "BEND " + p + " of 5 in the last TENTH", x.barred(0), 1);
        }
        for (int p = 0; p < 4; p++) {
            OverABar x = flat("bend 0 18;bend 1 18;bend 2 18;pit 2;", 7);
            x.put(0, 6, p, 6, -6);
            bench.due(18, "quick of 6", x.barred(0), 0);
            x.put(0, 6, p, 7, 0);
            bench.due(18, "quick of X 7", x.barred(0), 2);
            x.put(0, 6, p, 0, -7);
            bench.due(18, "quick of Y -7", x.barred(0), 2);
            x.put(0, 6, p, 0, 0);
            x.put(0, 0, p, 7, 0);
            bench.due(18, "quick from TENTH 0", x.barred(0), 2);
        }
        OverABar x = new OverABar();
        x.way(0, 7, 2);
        bench.due(18, "feet 2 above 1", x.barred(0), 3);
        Bench.tell(x, "feet 2;");
        bench.due(18, "feet 2", x.barred(0), 0);
    }

    private static void barredInTurn() {
        OverABar x = new OverABar();
        x.way(0, 3, 2);
        x.put(0, 2, 0, 0, -9);
        x.put(0, 2, 1, 9, 0);
        bench.due(18, "all four", x.barred(0), 1);
        Bench.tell(x, "bend 0 18;bend 1 18;");
        bench.due(18, "three", x.barred(0), 2);
        Bench.tell(x, "bend 0 18;bend 1 18;quick 9;");
        bench.due(18, "two", x.barred(0), 3);
        Bench.tell(x, "bend 0 18;bend 1 18;quick 9;feet 2;");
        bench.due(18, "the pit", x.barred(0), 4);
        Bench.tell(x, "bend 0 18;bend 1 18;quick 9;feet 2;pit 1;");
        bench.due(18, "pit 1", x.barred(0), 4);
        Bench.tell(x, "bend 0 18;bend 1 18;quick 9;feet 2;pit 2;");
        bench.due(18, "pit 2", x.barred(0), 0);
    }

    private static void pits() {
        OverABar x = flat(7);
        bench.due(19, "all alike: PART 3", x.pits(0), 7);
        x.put(0, 6, 3, 0, 1);
        bench.due(19, "PART 2", x.pits(0), 6);
        bench.due(18, "PART 2 in pit 0", x.barred(0), 4);
        x.put(0, 6, 1, 0, -1);
        bench.due(19, "PART 1", x.pits(0), 4);
        x.put(0, 6, 0, 0, -1);
        x.put(0, 6, 2, 0, -1);
        bench.due(19, "PARTS 0, 1, 2: the greatest", x.pits(0), 6);
        x.put(0, 6, 0, 0, -2);
        bench.due(19, "PART 0", x.pits(0), 4);
        x.put(0, 6, 3, 0, -2);
        bench.due(19, "PARTS 0 and 3", x.pits(0), 7);
        x.put(0, 5, 0, 0, -9);
        bench.due(19, "the last TENTH alone counts", x.pits(0), 7);
        Bench.tell(x, "pit 1;");
        bench.due(19, "whichever pit holds", x.pits(0), 7);
    }

    private static void noWay() {
        OverABar x = flat(7);
        for (int w : WRONG) {
            bench.due(10, "of(" + w + ", 0)", x.of(w, 0), -1);
            bench.due(13, "near(" + w + ", 0, 0)", x.near(w, 0, 0), -1);
            bench.due(14, "high(" + w + ")", x.high(w), -1);
            bench.due(15, "lowest(" + w + ")", x.lowest(w), -1);
            bench.due(16, "under(" + w + ")", x.under(w), -1000000);
            bench.due(17, "order(" + w + ")", x.order(w), -1);
            bench.due(18, "barred(" + w + ")", x.barred(w), -1);
            bench.due(19, "pits(" + w + ")", x.pits(w), -1);
        }
    }
}
