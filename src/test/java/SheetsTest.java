/** Promises 36 to 40: sheets and count. */
public final class SheetsTest {
    private static final Bench bench = new Bench();

    public static void main(String[] args) {
        sheet();
        lay();
        lanes();
        film();
        filmCutShort();
        filmOutOfBounds();
        filmRefused();
        torn();
        count();
        bench.finish("SheetsTest");
    }

    /** A new object whose SHEET 0 has n CELLS of a lane: i % 19 - 9. */
    private static OverABar sheeted(int lane, int n) {
        OverABar x = new OverABar();
        x.sheet(0, lane, n);
        for (int i = 0; i < n; i++) {
            x.lay(0, i, cell(i));
        }
        return x;
    }

    private static int cell(int i) {
        return i % 19 - 9;
    }

    private static void sheet() {
        OverABar x = new OverABar();
        bench.due(36, "sheet(0, 0, 0)", x.sheet(0, 0, 0), 1);
        bench.due(36, "count(5)", x.count(5), 0);
        bench.due(36, "lay in no CELLS", x.lay(0, 0, 1), -12);
        bench.due(36, "sheet(3, 2, 64)", x.sheet(3, 2, 64), 1);
        bench.due(36, "lay(3, 63, 1)", x.lay(3, 63, 1), 1);
        bench.due(36, "sheet(0, 1, 64)", x.sheet(0, 1, 64), 1);
        for (int i = 0; i < 64; i++) {
            x.lay(0, i, 5);
        }
        int[][] wrong = {{-1, 0, 1}, {4, 0, 1}, {0, -1, 1}, {0, 3, 1}, {0, 0, 65}, {4, 0, -1}, {0, 3, -1},
            {0, 0, Integer.MAX_VALUE}, {Integer.MIN_VALUE, 0, 1}};
        for (int[] a : wrong) {
            bench.due(36, "sheet wrong", x.sheet(a[0], a[1], a[2]), -1);
        }
        bench.due(36, "sheet(0, 0, -1)", x.sheet(0, 0, -1), -14);
        bench.due(36, "sheet(0, 0, min)", x.sheet(0, 0, Integer.MIN_VALUE), -14);
        bench.due(36, "the SHEET stays", x.count(5), 64);
        bench.due(36, "as of its lane", x.film(0, 0, 1, 0, 8, 1), 8);
        bench.due(36, "its CELLS stay", x.at(0, 7, 3, 1), 5);
        x.sheet(0, 1, 16);
        x.sheet(0, 1, 64);
        x.film(0, 0, 1, 0, 8, 1);
        for (int t = 0; t < 8; t++) {
            bench.due(36, "CELLS are 0 anew", x.at(0, t, 0, 0), 0);
            bench.due(36, "CELLS are 0 anew", x.at(0, t, 3, 1), 0);
        }
        bench.due(36, "sheet(1, 0, -1)", x.sheet(1, 0, -1), -14);
        bench.due(36, "it has nothing yet", x.lay(1, 0, 0), -11);
    }

    private static void lay() {
        OverABar x = new OverABar();
        bench.due(37, "lay(0, 0, 0) of nothing", x.lay(0, 0, 0), -11);
        bench.due(37, "lay(0, -1, 0) of nothing", x.lay(0, -1, 0), -11);
        x.sheet(0, 0, 16);
        bench.due(37, "lay(0, 0, 3)", x.lay(0, 0, 3), 1);
        bench.due(37, "lay(0, 15, 4)", x.lay(0, 15, 4), 1);
        bench.due(37, "lay(0, 16, 4)", x.lay(0, 16, 4), -12);
        bench.due(37, "lay(0, -1, 4)", x.lay(0, -1, 4), -12);
        bench.due(37, "lay(0, max, 4)", x.lay(0, Integer.MAX_VALUE, 4), -12);
        bench.due(37, "lay(0, min, 4)", x.lay(0, Integer.MIN_VALUE, 4), -12);
        for (int k : new int[] {-1, 4, Integer.MIN_VALUE, Integer.MAX_VALUE}) {
            bench.due(37, "lay(" + k + ", 0, 0)", x.lay(k, 0, 0), -1);
        }
        x.film(0, 0, 0, 0, 2, 1);
        bench.due(37, "CELL 0", x.at(0, 0, 0, 0), 3);
        bench.due(37, "CELL 15", x.at(0, 1, 3, 1), 4);
        bench.due(37, "CELL 1", x.at(0, 0, 0, 1), 0);
    }

    /** v in a CELL of each lane; what is due, if it is within -9 to 9. */
    private static void dueCell(int v, int asByte, int asShort, int asInt) {
        int[] want = {asByte, asShort, asInt};
        for (int lane = 0; lane < 3; lane++) {
            OverABar x = new OverABar();
            x.sheet(0, lane, 16);
            x.lay(0, 7, v);
            boolean fits = want[lane] >= -9 && want[lane] <= 9;
            bench.due(37, "film of " + v + " in lane " + lane, x.film(0, 0, lane, 0, 2, 1), fits ? 2 : -20);
            bench.due(37, "CELL of " + v + " in lane " + lane, x.at(0, 0, 3, 1), fits ? want[lane] : -1000);
        }
    }

    private static void lanes() {
        dueCell(-9, -9, -9, -9);
        dueCell(256 + 7, 7, 263, 263);
        dueCell(255, -1, 255, 255);
        dueCell(65536 - 5, -5, -5, 65531);
        dueCell(65536 + 5, 5, 5, 65541);
        dueCell(128, -128, 128, 128);
        dueCell(0x12340000, 0, 0, 0x12340000);
        dueCell(Integer.MIN_VALUE, 0, 0, Integer.MIN_VALUE);
        dueCell(0x12340100, 0, 256, 0x12340100);
    }

    private static void film() {
        for (int lane = 0; lane < 3; lane++) {
            OverABar x = sheeted(lane, 64);
            bench.due(38, "film, 8 TENTHS", x.film(5, 0, lane, 0, 8, 2), 8);
            bench.due(38, "of(5, 0)", x.of(5, 0), 8);
            bench.due(38, "of(5, 1)", x.of(5, 1), 2);
            for (int i = 0; i < 64; i++) {
                bench.due(38, "number " + i, x.at(5, i / 8, i % 8 / 2, i % 2), cell(i));
            }
            bench.due(38, "film from CELL 5 on", x.film(5, 0, lane, 5, 2, 1), 2);
            bench.due(38, "of(5, 0)", x.of(5, 0), 2);
            bench.due(38, "of(5, 1)", x.of(5, 1), 1);
            bench.due(38, "X of PART 0", x.at(5, 0, 0, 0), cell(5));
            bench.due(38, "Y of PART 3", x.at(5, 1, 3, 1), cell(20));
            bench.due(38, "torn()", x.torn(), 0);
            bench.due(38, "film of the last CELLS", x.film(0, 0, lane, 48, 2, 1), 2);
        }
    }

    private static void filmCutShort() {
        OverABar x = sheeted(1, 31);
        bench.due(38, "film, 3 of 4 whole", x.film(0, 0, 1, 0, 4, 2), 3);
        bench.due(38, "torn()", x.torn(), 2);
        bench.due(38, "of(0, 0)", x.of(0, 0), 3);
        bench.due(38, "of(0, 1)", x.of(0, 1), 2);
        bench.due(38, "Y of PART 3", x.at(0, 2, 3, 1), cell(23));
        bench.due(38, "at of one that did not come", x.at(0, 3, 0, 0), -1000);
        bench.due(38, "film, 2 of 4 whole", x.film(0, 0, 1, 15, 4, 1), 2);
        bench.due(38, "of(0, 0)", x.of(0, 0), 2);
        bench.due(38, "film, 1 of 4 whole", x.film(0, 0, 1, 16, 4, 2), 0);
        bench.due(38, "torn()", x.torn(), 2);
        bench.due(38, "the WAY stays", x.of(0, 1), 1);
        bench.due(38, "the WAY stays", x.at(0, 0, 0, 0), cell(15));
        for (int f : new int[] {24, 31, -1, -8, 64, Integer.MAX_VALUE, Integer.MIN_VALUE, Integer.MAX_VALUE - 6}) {
            x.film(1, 0, 0, 0, 2, 1);
            bench.due(38, "torn() of CAST", x.torn(), 3);
            bench.due(38, "film from " + f, x.film(1, 0, 1, f, 2, 1), 0);
            bench.due(38, "torn() from " + f, x.torn(), 2);
        }
        bench.due(38, "there is no WAY yet", x.of(1, 0), -1);
        x.sheet(1, 0, 0);
        bench.due(38, "film of no CELLS", x.film(1, 1, 0, 0, 2, 1), 0);
        bench.due(38, "torn() of no CELLS", x.torn(), 2);
    }

    private static void filmOutOfBounds() {
        OverABar x = sheeted(2, 24);
        x.way(0, 3, 2);
        for (int i = 0; i < 24; i++) {
            for (int v : new int[] {10, -10, Integer.MAX_VALUE, Integer.MIN_VALUE}) {
                x.lay(0, i, v);
                bench.due(38, "film, CELL " + i + " of " + v, x.film(0, 0, 2, 0, 3, 1), -20 - i / 8);
            }
            x.lay(0, i, cell(i));
        }
        bench.due(38, "the WAY stays", x.of(0, 1), 2);
        x.lay(0, 8, 10);
        x.lay(0, 17, 10);
        bench.due(38, "film, the first met", x.film(0, 0, 2, 0, 3, 1), -21);
        bench.due(38, "film, met ahead of the end", x.film(0, 0, 2, 0, 8, 1), -21);
        bench.due(38, "film, met in TENTH 0", x.film(0, 0, 2, 8, 8, 1), -20);
        x.lay(0, 8, 0);
        bench.due(38, "film, not of what is read", x.film(0, 0, 2, 0, 2, 1), 2);
        // TENTH 2 (CELLS 17 to 24) is not whole
        bench.due(38, "film, a TENTH that is not whole", x.film(0, 0, 2, 1, 3, 1), 2);
        bench.due(38, "torn()", x.torn(), 2);
    }

    private static void filmRefused() {
        OverABar x = sheeted(0, 64);
        int[][] wrong = {{-1, 0, 0, 0, 2, 1}, {6, 0, 0, 0, 2, 1}, {0, -1, 0, 0, 2, 1}, {0, 4, 0, 0, 2, 1},
            {0, 0, -1, 0, 2, 1}, {0, 0, 3, 0, 2, 1}, {0, 0, 0, 0, 1, 1}, {0, 0, 0, 0, 9, 1}, {0, 0, 0, 0, -1, 1},
            {0, 0, 0, 0, 2, 0}, {0, 0, 0, 0, 2, 3}, {0, 1, 3, 0, 2, 1}, {0, 0, 0, -1, 2, 3}};
        for (int[] a : wrong) {
            bench.due(38, "film wrong", x.film(a[0], a[1], a[2], a[3], a[4], a[5]), -1);
        }
        bench.due(38, "there is no WAY", x.count(0), 0);
        for (int lane = 0; lane < 3; lane++) {
            bench.due(38, "film of nothing", x.film(0, 1, lane, -1, 2, 1), 0);
            bench.due(38, "torn() of nothing", x.torn(), 1);
        }
        bench.due(38, "film as of another lane", x.film(0, 0, 2, -1, 2, 1), 0);
        bench.due(38, "torn() of another lane", x.torn(), 3);
    }

    private static void torn() {
        OverABar x = sheeted(0, 20);
        x.film(0, 3, 0, 0, 2, 1);
        bench.due(39, "torn(), NULL", x.torn(), 1);
        x.film(0, 0, 0, 0, 2, 3);
        bench.due(39, "torn() behind BAD", x.torn(), 1);
        x.lay(0, 9, 10);
        bench.due(39, "film", x.film(0, 0, 0, 0, 2, 1), -21);
        bench.due(39, "torn() behind -21: it did not come to an end", x.torn(), 1);
        bench.due(39, "sheet, SIZE", x.sheet(1, 0, -1), -14);
        bench.due(39, "lay, NULL", x.lay(3, 0, 0), -11);
        bench.due(39, "torn() is film()'s alone", x.torn(), 1);
        x.lay(0, 9, 0);
        x.film(0, 0, 1, 0, 2, 1);
        bench.due(39, "torn(), CAST", x.torn(), 3);
        x.film(0, 0, 0, 0, 3, 1);
        bench.due(39, "torn(), INDEX", x.torn(), 2);
        x.film(0, 0, 0, 0, 2, 1);
        bench.due(39, "torn(), none", x.torn(), 0);
    }

    private static void count() {
        OverABar x = sheeted(2, 33);
        x.way(0, 3, 1);
        x.way(4, 8, 1);
        x.way(5, 2, 1);
        for (int w : new int[] {0, 2, 4, 2, 2}) {
            x.jumper(w);
        }
        x.feed(0);
        x.feed(0);
        x.end(13);
        int[] want = {3, 13, 5, 3, 13, 33};
        for (int what = 0; what < want.length; what++) {
            bench.due(40, "count(" + what + ")", x.count(what), want[what]);
        }
        x.way(4, 2, 1);
        bench.due(40, "count(0), a WAY anew", x.count(0), 3);
        bench.due(40, "count(1), a WAY anew", x.count(1), 7);
        x.copy(4, 0);
        bench.due(40, "count(3) tells WAYS by their numbers", x.count(3), 3);
        for (int what : new int[] {-1, 6, Integer.MIN_VALUE, Integer.MAX_VALUE}) {
            bench.due(40, "count(" + what + ")", x.count(what), -1);
        }
        x = new OverABar();
        x.sheet(1, 0, 5);
        bench.due(40, "count(5), SHEET 0 has nothing", x.count(5), -4);
    }
}
