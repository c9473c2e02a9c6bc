/** Promises 20 to 26: hills. */
public final class HillsTest {
    private static final int[] NO_WAYS = {-1, 5, 6, Integer.MIN_VALUE, Integer.MAX_VALUE};

    private static final Bench bench = new Bench();

    public static void main(String[] args) {
        worth();
        better();
        climb();
        around();
        aroundNeighbours();
        valley();
        best();
        suits();
        bench.finish("HillsTest");
    }

    private static OverABar flat() {
        OverABar x = new OverABar();
        x.way(0, 7, 1);
        return x;
    }

    private static void worth() {
        OverABar x = flat();
        bench.due(20, "worth(0, -1)", x.worth(0, -1), 52);
        // Y of PART 0 in TENTH 3 one more: the others are at 1035
        bench.due(20, "worth(0, 50)", x.worth(0, 50), 51);
        bench.due(20, "worth(0, 51)", x.worth(0, 51), 51);
        bench.due(20, "worth(0, 48)", x.worth(0, 48), 52);
        // Y of PART 3 in the last TENTH one more: the pit does not bear PART 2
        bench.due(20, "worth(0, 110)", x.worth(0, 110), -1);
        bench.due(20, "worth(0, 111)", x.worth(0, 111), 52);
        bench.due(20, "the WAY stays", x.at(0, 6, 3, 1), 0);
        bench.due(20, "worth(0, 112)", x.worth(0, 112), -1000);
        bench.due(20, "worth(0, 128)", x.worth(0, 128), -1000);
        bench.due(20, "worth(0, -2)", x.worth(0, -2), -1000);
        bench.due(20, "worth(0, max)", x.worth(0, Integer.MAX_VALUE), -1000);
        x.put(0, 0, 1, 9, -9);
        Bench.tell(x, "bend 0 18;bend 1 18;bend 2 18;quick 18;");
        bench.due(20, "X 9 one more", x.worth(0, 4), -1000);
        bench.due(20, "X 9 one less", x.worth(0, 5), 52);
        bench.due(20, "Y -9 one more", x.worth(0, 6), 52);
        bench.due(20, "Y -9 one less", x.worth(0, 7), -1000);
        x.way(1, 8, 1);
        bench.due(20, "worth(1, 127)", x.worth(1, 127), 52);
        for (int w : NO_WAYS) {
            bench.due(20, "worth(" + w + ", -1)", x.worth(w, -1), -1000);
            bench.due(20, "worth(" + w + ", 0)", x.worth(w, 0), -1000);
        }
        x.way(0, 7, 2);
        bench.due(20, "BARRED", x.worth(0, -1), -1);
        x.way(0, 4, 1);
        bench.due(20, "HIGH is NONE", x.worth(0, -1), -1);
    }

    private static void better() {
        OverABar x = flat();
        bench.due(21, "better(0) on a TOP", x.better(0), -4);
        x.put(0, 3, 0, 0, -1);
        bench.due(21, "better(0)", x.better(0), 50);
        bench.due(21, "the WAY stays", x.at(0, 3, 0, 1), -1);
        x.put(0, 3, 0, 0, 0);
        x.put(0, 6, 0, 0, -1);
        // Y of PART 0 up (98) or of PART 3 down (111): the pit bears it again
        bench.due(21, "better(0) of two", x.better(0), 98);
        bench.due(21, "the other one", x.worth(0, 111), 52);
        x.put(0, 6, 0, 0, 0);
        x.put(0, 6, 3, 0, 1);
        bench.due(21, "better(0) of one", x.better(0), 111);
        for (int w : NO_WAYS) {
            bench.due(21, "better(" + w + ")", x.better(w), -1);
        }
    }

    private static void climb() {
        OverABar x = Bench.told("weight 0 1;weight 1 20;weight 2 20;weight 3 20;");
        x.way(0, 7, 1);
        x.put(0, 3, 0, 0, -4);
        // PART 0 is at 61 * 52 + 60 Y: 48, 49, 50, 51, 52
        bench.due(22, "worth(0, -1)", x.worth(0, -1), 48);
        bench.due(22, "climb(0, 0)", x.climb(0, 0), -1);
        bench.due(22, "climb(0, 41)", x.climb(0, 41), -1);
        bench.due(22, "climb(0, -1)", x.climb(0, -1), -1);
        bench.due(22, "the WAY stays", x.at(0, 3, 0, 1), -4);
        bench.due(22, "climb(0, 3)", x.climb(0, 3), 3);
        bench.due(22, "Y", x.at(0, 3, 0, 1), -1);
        bench.due(22, "high(0)", x.high(0), 51);
        bench.due(22, "climb(0, 40)", x.climb(0, 40), 1);
        bench.due(22, "Y", x.at(0, 3, 0, 1), 0);
        bench.due(22, "climb(0, 1) on a TOP", x.climb(0, 1), 0);
        for (int w : NO_WAYS) {
            bench.due(22, "climb(" + w + ", 1)", x.climb(w, 1), -1);
        }
        x.put(0, 6, 0, 0, -1);
        bench.due(22, "climb(0, 1) of two that are as great", x.climb(0, 1), 1);
        bench.due(22, "Y of the lesser number", x.at(0, 6, 0, 1), 0);
        bench.due(22, "Y of the greater one", x.at(0, 6, 3, 1), 0);
        Bench.tell(x, "quick 18;");
        x.way(0, 7, 1);
        x.put(0, 0, 0, -9, 1);
        // BENT by 10: X of PART 0 more (0) is the first of four that mend it
        bench.due(21, "better(0)", x.better(0), 0);
        bench.due(22, "climb(0, 1) by SMALL CHANGE 0", x.climb(0, 1), 1);
        bench.due(22, "X", x.at(0, 0, 0, 0), -8);
    }

    private static void around() {
        OverABar x = flat();
        x.put(0, 3, 0, 0, -1);
        // greater: 50; lesser: 51, and four by the pit; 112 in all
        bench.due(23, "around(0, 0)", x.around(0, 0), 106);
        bench.due(23, "around(0, 1)", x.around(0, 1), 5);
        bench.due(23, "around(0, 2)", x.around(0, 2), 1);
        bench.due(23, "around(0, 3)", x.around(0, 3), -1);
        bench.due(23, "around(0, -1)", x.around(0, -1), -1);
        for (int w : NO_WAYS) {
            bench.due(23, "around(" + w + ", 0)", x.around(w, 0), -1);
        }
        // BARRED by FEET whatever changes; what is out of bounds is no SMALL CHANGE
        x.way(0, 2, 2);
        bench.due(23, "around(0, 0) of 2 TENTHS", x.around(0, 0), 32);
        x.put(0, 1, 3, 9, -9);
        bench.due(23, "around(0, 0) at two bounds", x.around(0, 0), 30);
        bench.due(23, "around(0, 1)", x.around(0, 1), 0);
        bench.due(23, "around(0, 2)", x.around(0, 2), 0);
        x.put(0, 0, 0, 9, 9);
        bench.due(23, "around(0, 0) at four bounds", x.around(0, 0), 28);
        x.way(0, 8, 2);
        bench.due(23, "around(0, 0) of 8 TENTHS", x.around(0, 0), 128);
    }

    /** SMALL CHANGES by which a WAY is too QUICK from a TENTH or to it, or no longer. */
    private static void aroundNeighbours() {
        OverABar x = flat();
        x.put(0, 1, 3, 0, -6);
        x.put(0, 2, 3, 0, -3);
        // lesser: twelve of TENTHS 3 and 6, Y of PART 3 more in TENTH 0, less in TENTH 1
        bench.due(23, "around(0, 0)", x.around(0, 0), 98);
        bench.due(23, "around(0, 1)", x.around(0, 1), 14);
        x.put(0, 1, 3, 0, -7);
        bench.due(23, "it is too QUICK", x.barred(0), 2);
        bench.due(23, "around(0, 2)", x.around(0, 2), 2);
        bench.due(23, "around(0, 0)", x.around(0, 0), 110);
        bench.due(21, "better(0): Y of PART 3 less in TENTH 0", x.better(0), 15);
        bench.due(20, "worth(0, 30)", x.worth(0, 30), 52);
        x.put(0, 0, 3, 0, -1);
        x.put(0, 2, 3, 0, 0);
        bench.due(21, "better(0): more in TENTH 1", x.better(0), 30);
        bench.due(20, "worth(0, 47)", x.worth(0, 47), 52);
    }

    private static void valley() {
        OverABar x = flat();
        x.way(1, 7, 2);
        for (int p = 0; p < 4; p++) {
            x.put(1, 3, p, 0, 2);
        }
        // with Y 2 of PARTS 0 to 2 PART 3 is at 1010; at both ends all are at 1040
        bench.due(24, "valley(0, 1, 0)", x.valley(0, 1, 0), 50);
        bench.due(24, "valley(0, 1, 1)", x.valley(0, 1, 1), 4);
        bench.due(24, "valley(1, 0, 0): FEET 2 throughout", x.valley(1, 0, 0), -1);
        bench.due(24, "valley(1, 0, 1)", x.valley(1, 0, 1), 4);
        bench.due(24, "valley(0, 0, 0)", x.valley(0, 0, 0), 52);
        bench.due(24, "valley(0, 0, 1)", x.valley(0, 0, 1), 0);
        bench.due(24, "the first one stays", x.at(0, 3, 0, 1), 0);
        bench.due(24, "its FEET stay", x.of(0, 1), 1);
        Bench.tell(x, "feet 2;");
        bench.due(24, "valley(1, 0, 0)", x.valley(1, 0, 0), 50);
        x.way(2, 7, 1);
        x.put(2, 3, 1, 1, -1);
        bench.due(24, "the last end is the least", x.valley(0, 2, 0), 51);
        bench.due(24, "the first end is the least", x.valley(2, 0, 0), 51);
        bench.due(24, "X and Y are two numbers", x.valley(0, 2, 1), 2);
        x.put(2, 3, 1, 0, 0);
        x.put(2, 0, 0, 1, 0);
        bench.due(24, "the first number of all", x.valley(0, 2, 1), 1);
        x.way(3, 8, 1);
        x.way(4, 8, 1);
        x.put(4, 7, 3, 0, -1);
        bench.due(24, "the last number of all", x.valley(3, 4, 1), 1);
        bench.due(24, "valley of 8 TENTHS", x.valley(3, 4, 0), 52);
        x.way(3, 6, 1);
        bench.due(24, "valley(0, 3, 0)", x.valley(0, 3, 0), -2);
        bench.due(24, "valley(3, 0, 1)", x.valley(3, 0, 1), -2);
        bench.due(24, "valley(0, 3, 2)", x.valley(0, 3, 2), -1);
        bench.due(24, "valley(0, 1, -1)", x.valley(0, 1, -1), -1);
        for (int w : NO_WAYS) {
            bench.due(24, "valley(" + w + ", 0, 0)", x.valley(w, 0, 0), -1);
            bench.due(24, "valley(0, " + w + ", 0)", x.valley(0, w, 0), -1);
        }
        valleyInOrder();
    }

    /** X ahead of Y, the lesser PART and TENTH ahead: seen by what is BENT on the way. */
    private static void valleyInOrder() {
        OverABar x = Bench.told("bend 0 4;");
        x.way(0, 7, 1);
        x.way(1, 7, 1);
        x.put(0, 1, 0, 0, 4);
        x.put(1, 1, 0, 4, 0);
        bench.due(24, "X first: it is BENT", x.valley(0, 1, 0), -1);
        x.put(0, 1, 0, 4, 0);
        x.put(1, 1, 0, 0, 4);
        bench.due(24, "X first: it is not BENT", x.valley(0, 1, 0), 52);
        x.put(0, 1, 0, 0, 0);
        x.put(1, 1, 0, 5, 0);
        x.put(1, 1, 1, 1, 0);
        bench.due(24, "PART 0 first: it is BENT", x.valley(0, 1, 0), -1);
        bench.due(24, "the end is not", x.worth(1, -1), 52);
        x.put(0, 1, 0, 4, 0);
        x.put(1, 1, 0, -1, 0);
        x.put(1, 1, 1, -5, 0);
        bench.due(24, "PART 0 first: it is not BENT", x.valley(0, 1, 0), 52);
        Bench.tell(x, "quick 2;");
        x.way(0, 7, 1);
        x.way(1, 7, 1);
        x.put(1, 0, 0, 3, 0);
        x.put(1, 1, 0, 1, 0);
        bench.due(24, "TENTH 0 first: it is QUICK", x.valley(0, 1, 0), -1);
        bench.due(24, "the end is not", x.worth(1, -1), 52);
        bench.due(24, "back: it is not QUICK", x.valley(1, 0, 0), 52);
    }

    /** WAY 0 clears 52; WAY 1 53, as PART 3 hangs low, but far across. */
    private static OverABar two() {
        OverABar x = flat();
        x.way(1, 7, 1);
        x.put(1, 3, 3, 4, -4);
        return x;
    }

    private static void best() {
        OverABar x = new OverABar();
        bench.due(25, "best(0) of none", x.best(0), -4);
        bench.due(25, "best(1) of none", x.best(1), -1);
        x.way(3, 7, 2);
        bench.due(25, "best(0), BARRED", x.best(0), -4);
        bench.due(25, "best(1), BARRED", x.best(1), -1);
        x = two();
        bench.due(25, "best(0)", x.best(0), 1);
        bench.due(25, "best(1)", x.best(1), 53);
        x.copy(1, 5);
        x.copy(1, 4);
        bench.due(25, "best(0) of several", x.best(0), 1);
        x.way(1, 7, 2);
        bench.due(25, "best(0)", x.best(0), 4);
        bench.due(25, "best(2)", x.best(2), -1);
        bench.due(25, "best(-1)", x.best(-1), -1);
        x = Bench.told("stand 18;rise 0;");
        x.way(2, 7, 1);
        bench.due(25, "best(0) of WORTH 0", x.best(0), 2);
        bench.due(25, "best(1) of WORTH 0", x.best(1), 0);
    }

    private static void suits() {
        OverABar x = two();
        bench.due(26, "suits(3, 5)", x.suits(3, 5), 1);
        // 836 by 16: both clear 52
        bench.due(26, "suits(3, 1)", x.suits(3, 1), 0);
        bench.due(26, "suits(3, 6)", x.suits(3, 6), 1);
        // PART 3 is NEAR then
        bench.due(26, "suits(3, 20)", x.suits(3, 20), 0);
        // 36 + 20 by 35 above 52, but PART 3 is NEAR
        bench.due(26, "suits(0, 20)", x.suits(0, 20), 0);
        bench.due(26, "suits(0, 1)", x.suits(0, 1), 1);
        bench.due(26, "the WEIGHT stays", x.rule(3), 5);
        bench.due(26, "the WEIGHT stays", x.rule(0), 5);
        bench.due(26, "best(0)", x.best(0), 1);
        int[][] wrong = {{-1, 5}, {4, 5}, {0, 0}, {0, 21}, {0, -1}, {Integer.MAX_VALUE, 5}, {3, Integer.MIN_VALUE}};
        for (int[] a : wrong) {
            bench.due(26, "suits(" + a[0] + ", " + a[1] + ")", x.suits(a[0], a[1]), -1);
        }
        x = new OverABar();
        bench.due(26, "suits of none", x.suits(0, 5), -4);
        x.way(0, 4, 1);
        bench.due(26, "suits, none above -1", x.suits(0, 5), -4);
    }
}
