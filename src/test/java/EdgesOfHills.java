/** Edges of promises 20 to 26: hills. */
final class EdgesOfHills extends Edges {
    /** 8 TENTHS, none of them NEAR: WORTH is 999, if it is not BARRED. */
    private static final String FAR_OFF = "bend 0 18;bend 1 18;bend 2 18;pit 2;run 20;mark 70;";
    /** TENTH 3 of 7 alone is NEAR, at 40 up (10, by 4). */
    private static final String LOW_BAR = LIGHT + "stand 28;rise 0;";

    // ---- 20: worth

    static void p20_worth_is_high_or_minus_1() {
        says("WORTH of a WAY: HIGH, if it is not BARRED, else -1 (also, if HIGH is NONE).");
        OverABar x = flat("", 7);
        due("worth", x.worth(0, -1), 52);
        x.way(0, 7, 2);
        due("BARRED by FEET", x.worth(0, -1), -1);
        x.way(0, 7, 1);
        x.put(0, 1, 0, 9, 1);
        due("BARRED by BEND", x.worth(0, -1), -1);
        x.put(0, 1, 0, 7, 0);
        due("BARRED by quick", x.worth(0, -1), -1);
        x.way(0, 7, 1);
        x.put(0, 6, 0, 0, -1);
        due("BARRED by the pit", x.worth(0, -1), -1);
        due("HIGH is NONE: not ACROSS", flat("", 4).worth(0, -1), -1);
        due("HIGH is NONE: below 0", flat("stand 17;rise 0;", 7).worth(0, -1), -1);
        due("HIGH is 0", flat("stand 18;rise 0;", 7).worth(0, -1), 0);
        due("HIGH is 999", flat(FAR_OFF, 8).worth(0, -1), 999);
    }

    static void p20_numbered() {
        says("numbered 16 times the TENTH, 4 times the PART, 2 for Y, 1 for less, summed.");
        for (int c = 0; c < 128; c++) {
            OverABar x = flat(FAR_OFF, 8);
            int v = c % 2 == 0 ? -7 : 7;
            int t = c / 16;
            // one number is 1 too QUICK, from both TENTHS beside it
            x.put(0, t, c % 16 / 4, c % 4 < 2 ? v : 0, c % 4 < 2 ? 0 : v);
            due("worth(0, -1)", x.worth(0, -1), -1);
            for (int d = 0; d < 128; d++) {
                boolean mends = d == c || t == 0 && d == (c + 16 ^ 1) || t == 7 && d == (c - 16 ^ 1);
                due("worth(0, " + d + "), what " + c + " mends", x.worth(0, d), mends ? 999 : -1);
            }
        }
    }

    static void p20_1_more_or_1_less_within_bounds() {
        says("A SMALL CHANGE of a WAY: X or Y of a PART in a TENTH is 1 more or 1 less (within bounds):");
        says("out of bounds.");
        for (int t = 0; t < 8; t += 7) {
            for (int p = 0; p < 4; p++) {
                OverABar x = flat(FAR_OFF, 8);
                int c = 16 * t + 4 * p;
                int[] at = {-9, -8, 8, 9};
                for (int v : at) {
                    x.put(0, t, p, v, -v);
                    due("X " + v + " more", x.worth(0, c) == -1000 ? 0 : 1, v == 9 ? 0 : 1);
                    due("X " + v + " less", x.worth(0, c + 1) == -1000 ? 0 : 1, v == -9 ? 0 : 1);
                    due("Y " + -v + " more", x.worth(0, c + 2) == -1000 ? 0 : 1, v == -9 ? 0 : 1);
                    due("Y " + -v + " less", x.worth(0, c + 3) == -1000 ? 0 : 1, v == 9 ? 0 : 1);
                }
            }
        }
    }

    static void p20_c_from_0_to_127() {
        says("WORTH of a WAY (-1) by a SMALL CHANGE (c 0 to 127; -1: as it is).");
        OverABar x = flat("", 8);
        due("worth(0, -1)", x.worth(0, -1), 52);
        due("worth(0, 0)", x.worth(0, 0), 52);
        due("worth(0, 127)", x.worth(0, 127), 52);
        // Y of PART 3 in the last TENTH more: PART 2 is the lowest, which pit 0 does not bear
        due("worth(0, 126)", x.worth(0, 126), -1);
        for (int c : new int[] {-2, 128, MIN, MAX}) {
            due("worth(0, " + c + ")", x.worth(0, c), -1000);
        }
    }

    static void p20_a_tenth_that_it_has_not() {
        says("BAD -1000: also a TENTH that it has not,");
        for (int n = 2; n <= 8; n++) {
            OverABar x = flat(FAR_OFF, n);
            due("the last SMALL CHANGE of " + n + " TENTHS", x.worth(0, 16 * n - 1) == -1000 ? 0 : 1, 1);
            due("the next one", x.worth(0, 16 * n), -1000);
            due("worth(0, 127)", x.worth(0, 127) == -1000 ? 0 : 1, n == 8 ? 1 : 0);
        }
    }

    static void p20_bad_changes_nothing() {
        says("BAD -1000:");
        for (int w : new int[] {1, -1, 6, MIN, MAX}) {
            refused("worth(" + w + ", -1)", x -> x.worth(w, -1), -1000);
            refused("worth(" + w + ", 0)", x -> x.worth(w, 0), -1000);
        }
        for (int c : new int[] {-2, 64, 128}) {
            refused("worth(0, " + c + ")", x -> x.worth(0, c), -1000);
        }
    }

    static void p20_the_way_stays() {
        says("WORTH of a WAY (-1) by a SMALL CHANGE");
        for (int c : new int[] {-1, 0, 1, 2, 3, 63}) {
            tells("worth(0, " + c + ")", x -> x.worth(0, c));
        }
    }

    // ---- 21: better

    /**
     * PART 3 hangs at 31 (7, by 4) one PLACE within what is NEAR; the others are
     * at 43. Y of PART 0 less (51) makes it 32; X of PART 3 more (60) takes it away.
     */
    private static OverABar hanging() {
        OverABar x = flat(LOW_BAR, 7);
        putX(x, 0, 3, 1, 1, 0, 3);
        putY(x, 0, 3, 0, 0, 0, -3);
        return x;
    }

    static void p21_the_greatest_worth() {
        says("CLIMB: the SMALL CHANGE with the greatest WORTH");
        says("The SMALL CHANGE of CLIMB.");
        OverABar x = hanging();
        due("PLACE across", x.place(0, 3, 3, 0), 7);
        due("worth(0, -1)", x.worth(0, -1), 7);
        due("worth(0, 51)", x.worth(0, 51), 8);
        due("worth(0, 60)", x.worth(0, 60), 10);
        due("better(0)", x.better(0), 60);
    }

    static void p21_of_several_the_least_number() {
        says("(of several the least number),");
        OverABar x = flat("", 7);
        x.put(0, 6, 0, 0, -1);
        // Y of PART 0 more or of PART 3 less: the pit bears it again
        due("worth(0, 98)", x.worth(0, 98), 52);
        due("worth(0, 111)", x.worth(0, 111), 52);
        due("better(0)", x.better(0), 98);
        x = flat(FAR_OFF, 8);
        // BENT by 1: X of PART 0 more is SMALL CHANGE 0
        x.put(0, 0, 0, -6, 0);
        x.put(0, 0, 1, 4, 0);
        Bench.tell(x, "run 20;mark 70;");
        due("barred", x.barred(0), 1);
        due("better(0), SMALL CHANGE 0", x.better(0), 0);
    }

    static void p21_the_last_small_change() {
        says("The SMALL CHANGE of CLIMB.");
        OverABar x = flat("run 20;mark 70;quick 18;", 8);
        putY(x, 0, 7, 9, 9, 8, 9);
        // pit 0 bears it by Y of PART 2 more (122) or of PART 3 less (127)
        due("worth(0, 122)", x.worth(0, 122), 999);
        due("worth(0, 127)", x.worth(0, 127), 999);
        due("better(0)", x.better(0), 122);
        putY(x, 0, 7, 9, 8, 8, 9);
        // by 127 alone, when two PARTS are lower than PART 3
        due("better(0)", x.better(0), 127);
    }

    static void p21_above_the_ways_own() {
        says("as long as that is above the WAY's.");
        OverABar x = flat("", 7);
        due("others are as great", x.around(0, 0) > 0 ? 1 : 0, 1);
        due("better(0)", x.better(0), NONE);
        // from WORTH -1 to 0: Y of PART 2 less
        x = flat(LIGHT + "stand 18;rise 0;", 7);
        x.put(0, 3, 2, 0, 1);
        due("worth(0, -1)", x.worth(0, -1), -1);
        due("better(0)", x.better(0), 59);
        due("worth(0, 59)", x.worth(0, 59), 0);
    }

    static void p21_none_on_a_top() {
        says("A TOP: no SMALL CHANGE has a greater WORTH.");
        says("NONE: it is a TOP.");
        due("WORTH 52", flat("", 7).better(0), NONE);
        due("WORTH 999", flat(FAR_OFF, 8).better(0), NONE);
        OverABar x = new OverABar();
        x.way(0, 7, 2);
        due("WORTH -1, whatever changes", x.better(0), NONE);
    }

    static void p21_bad() {
        says("BAD;");
        for (int w : new int[] {1, -1, 6, MIN, MAX}) {
            refused("better(" + w + ")", x -> x.better(w), BAD);
        }
        tells("better(0)", x -> x.better(0));
        OverABar x = hanging();
        x.better(0);
        due("X of PART 3 stays", x.at(0, 3, 3, 0), 3);
    }

    // ---- 22: climb

    /** PART 0, light and low, is 18 SMALL CHANGES beneath the TOP, each greater by 1. */
    private static OverABar deep() {
        OverABar x = flat("weight 0 1;weight 1 20;weight 2 20;weight 3 20;" + LITHE, 7);
        putY(x, 0, 3, -9, 9, 9, 9);
        return x;
    }

    static void p22_n_small_changes() {
        says("A WAY CLIMBS n SMALL CHANGES (1 to 40)");
        OverABar x = deep();
        due("worth", x.worth(0, -1), 34);
        due("climb(0, 1)", x.climb(0, 1), 1);
        due("Y", x.at(0, 3, 0, 1), -8);
        due("worth", x.worth(0, -1), 35);
        due("climb(0, 16)", x.climb(0, 16), 16);
        due("Y", x.at(0, 3, 0, 1), 8);
        due("worth", x.worth(0, -1), 51);
        x = deep();
        due("climb(0, 18), just up to the TOP", x.climb(0, 18), 18);
        due("worth", x.worth(0, -1), 52);
    }

    static void p22_or_till_it_is_a_top() {
        says("or till it is a TOP:");
        for (int n : new int[] {19, 40}) {
            OverABar x = deep();
            due("climb(0, " + n + ")", x.climb(0, n), 18);
            due("Y", x.at(0, 3, 0, 1), 9);
            due("worth", x.worth(0, -1), 52);
        }
    }

    static void p22_how_many_it_went() {
        says("how many it went.");
        OverABar x = deep();
        due("climb(0, 17)", x.climb(0, 17), 17);
        due("climb(0, 40)", x.climb(0, 40), 1);
        due("climb(0, 40) on the TOP", x.climb(0, 40), 0);
        due("climb(0, 1) on the TOP", x.climb(0, 1), 0);
    }

    static void p22_by_the_greatest() {
        says("CLIMB: the SMALL CHANGE with the greatest WORTH (of several the least number),");
        OverABar x = hanging();
        due("climb(0, 1)", x.climb(0, 1), 1);
        due("X of PART 3", x.at(0, 3, 3, 0), 4);
        due("Y of PART 0", x.at(0, 3, 0, 1), 0);
        due("worth", x.worth(0, -1), 10);
    }

    static void p22_by_the_first_and_the_last_small_change() {
        says("A WAY CLIMBS n SMALL CHANGES");
        OverABar x = flat("run 20;mark 70;quick 18;", 8);
        // BENT by 1: SMALL CHANGE 0 (X of PART 0 more) is the first that mends it
        putX(x, 0, 0, -6, 4);
        due("climb(0, 1)", x.climb(0, 1), 1);
        due("X of PART 0", x.at(0, 0, 0, 0), -5);
        due("X of PART 1", x.at(0, 0, 1, 0), 4);
        // the pit bears it by SMALL CHANGE 127 alone
        putY(x, 0, 7, 9, 8, 8, 9);
        due("climb(0, 1)", x.climb(0, 1), 1);
        due("Y of PART 3", x.at(0, 7, 3, 1), 8);
    }

    static void p22_bad_changes_nothing() {
        says("BAD.");
        says("what is refused changes nothing");
        for (int n : new int[] {0, 41, -1, MIN, MAX}) {
            refused("climb(0, " + n + ")", x -> x.climb(0, n), BAD);
            OverABar x = deep();
            due("climb(0, " + n + ")", x.climb(0, n), BAD);
            due("Y stays", x.at(0, 3, 0, 1), -9);
        }
        for (int w : new int[] {1, -1, 6, MIN, MAX}) {
            refused("climb(" + w + ", 1)", x -> x.climb(w, 1), BAD);
        }
    }

    // ---- 23: around

    static void p23_as_great_lesser_greater() {
        says("SMALL CHANGES that have as great a WORTH as the WAY itself (what 0), a lesser one (1), a greater one (2).");
        OverABar x = flat("", 7);
        x.put(0, 3, 0, 0, -1);
        // greater: 50; lesser: 51, and four by the pit
        due("around(0, 0)", x.around(0, 0), 112 - 6);
        due("around(0, 1)", x.around(0, 1), 5);
        due("around(0, 2)", x.around(0, 2), 1);
        tells("around(0, 2)", y -> y.around(0, 2));
    }

    static void p23_all_of_2_to_8_tenths() {
        says("SMALL CHANGES that have as great a WORTH as the WAY itself (what 0),");
        for (int n = 2; n <= 8; n++) {
            // BARRED by FEET, whatever changes
            OverABar x = new OverABar();
            x.way(0, n, 2);
            due("around(0, 0) of " + n + " TENTHS", x.around(0, 0), 16 * n);
            due("around(0, 1)", x.around(0, 1), 0);
            due("around(0, 2)", x.around(0, 2), 0);
        }
    }

    static void p23_within_bounds_alone() {
        says("is 1 more or 1 less (within bounds):");
        OverABar x = new OverABar();
        x.way(0, 2, 2);
        x.put(0, 0, 0, 9, 0);
        due("X 9", x.around(0, 0), 32 - 1);
        due("X 9, none greater", x.around(0, 2), 0);
        due("X 9, none lesser", x.around(0, 1), 0);
        x.put(0, 0, 0, 9, -9);
        due("X 9, Y -9", x.around(0, 0), 32 - 2);
        x.put(0, 1, 3, 8, -8);
        due("and X 8, Y -8 of another", x.around(0, 0), 32 - 2);
        for (int i = 0; i < 8; i++) {
            x.put(0, i / 4, i % 4, -9, 9);
        }
        due("all at their bounds", x.around(0, 0), 16);
        due("none lesser", x.around(0, 1), 0);
        due("none greater", x.around(0, 2), 0);
    }

    static void p23_bounds_of_an_earlier_way_are_gone() {
        says("SMALL CHANGES that have as great a WORTH as the WAY itself (what 0),");
        OverABar x = new OverABar();
        x.way(0, 8, 2);
        due("around(0, 0) of 8 TENTHS", x.around(0, 0), 128);
        x.way(1, 2, 2);
        putX(x, 1, 0, 9);
        due("around(1, 0) of 2 TENTHS, X 9", x.around(1, 0), 31);
        due("around(0, 0) of 8 TENTHS again", x.around(0, 0), 128);
    }

    static void p23_a_change_beside_a_quick_one() {
        says("SMALL CHANGES that have as great a WORTH as the WAY itself (what 0), a lesser one (1), a greater one (2).");
        // one number goes from 0 to 6 and 3: as QUICK as may be; the first of a TENTH, then the last
        for (int p = 0; p < 4; p += 3) {
            OverABar x = flat("run 20;mark 70;pit 2;", 8);
            x.put(0, 2, p, p == 0 ? 6 : 0, p == 0 ? 0 : -6);
            x.put(0, 3, p, p == 0 ? 3 : 0, p == 0 ? 0 : -3);
            // it is too QUICK by a change in TENTH 1 or TENTH 2
            due("around(0, 1)", x.around(0, 1), 2);
            due("around(0, 0)", x.around(0, 0), 126);
            x.put(0, 2, p, p == 0 ? 7 : 0, p == 0 ? 0 : -7);
            // it is too QUICK but for a change in TENTH 1 or TENTH 2
            due("around(0, 2)", x.around(0, 2), 2);
            due("around(0, 0)", x.around(0, 0), 126);
        }
    }

    static void p23_bad() {
        says("BAD.");
        int[][] wrong = {{1, 0}, {-1, 0}, {6, 0}, {0, -1}, {0, 3}, {MIN, 0}, {MAX, 0}, {0, MIN}, {0, MAX}};
        for (int[] a : wrong) {
            refused("around(" + a[0] + ", " + a[1] + ")", x -> x.around(a[0], a[1]), BAD);
        }
    }

    // ---- 24: valley

    /** WAYS 0 and 1 of 7 TENTHS of noughts. */
    private static OverABar pair(String text) {
        OverABar x = flat(text, 7);
        x.way(1, 7, 1);
        return x;
    }

    static void p24_the_least_worth() {
        says("VALLEY: the least WORTH (what 0),");
        says("VALLEY from a WAY to another one of as many TENTHS:");
        says("the least WORTH of all on the way");
        OverABar x = pair("");
        putY(x, 1, 3, 2, 2, 2, 2);
        // both ends at 1040; when PARTS 0 to 2 have Y 2, PART 3 is at 1010
        due("valley(0, 1, 0)", x.valley(0, 1, 0), 50);
        due("worth(0, -1)", x.worth(0, -1), 52);
        due("worth(1, -1)", x.worth(1, -1), 52);
        tells("valley(0, 0, 0)", y -> y.valley(0, 0, 0));
        x.valley(0, 1, 0);
        due("the first one stays", x.at(0, 3, 3, 1), 0);
        due("the other one stays", x.at(1, 3, 0, 1), 2);
    }

    static void p24_both_ends_too() {
        says("(both ends, too;");
        OverABar x = pair("");
        x.put(1, 3, 1, 0, -1);
        due("the last end", x.valley(0, 1, 0), 51);
        due("the first end", x.valley(1, 0, 0), 51);
        due("from a WAY to itself", x.valley(1, 1, 0), 51);
        x.way(1, 7, 1);
        due("WAYS that are alike", x.valley(0, 1, 0), 52);
    }

    static void p24_feet_as_of_the_first() {
        says("FEET as of the first one throughout).");
        OverABar x = flat("", 7);
        x.way(1, 7, 2);
        due("from FEET 1 to 2", x.valley(0, 1, 0), 52);
        due("from FEET 2 to 1", x.valley(1, 0, 0), -1);
        due("FEET are no number", x.valley(0, 1, 1), 0);
        due("of(0, 1)", x.of(0, 1), 1);
        due("of(1, 1)", x.of(1, 1), 2);
    }

    static void p24_x_ahead_of_y() {
        says("(in the order of SMALL CHANGES: TENTH, PART, X ahead of Y)");
        OverABar x = pair("bend 0 4;");
        x.put(0, 1, 0, 0, 4);
        x.put(1, 1, 0, 4, 0);
        due("X comes, then Y goes: BENT", x.valley(0, 1, 0), -1);
        due("X goes, then Y comes", x.valley(1, 0, 0), 52);
    }

    static void p24_the_lesser_part_ahead() {
        says("(in the order of SMALL CHANGES: TENTH, PART,");
        OverABar x = pair("bend 0 4;");
        x.put(1, 1, 0, 5, 0);
        x.put(1, 1, 1, 1, 0);
        due("PART 0 comes first: BENT", x.valley(0, 1, 0), -1);
        due("PART 0 goes first", x.valley(1, 0, 0), 52);
    }

    static void p24_the_lesser_tenth_ahead() {
        says("(in the order of SMALL CHANGES: TENTH,");
        OverABar x = pair("quick 2;");
        x.put(1, 0, 0, 3, 0);
        x.put(1, 1, 0, 1, 0);
        due("TENTH 0 comes first: QUICK", x.valley(0, 1, 0), -1);
        due("TENTH 0 goes first", x.valley(1, 0, 0), 52);
        // Y of PART 3 in TENTH 0 ahead of X of PART 0 in TENTH 1
        x = pair("");
        x.put(1, 0, 3, 0, -7);
        x.put(1, 1, 3, 0, -1);
        due("TENTH 0 comes first: QUICK", x.valley(0, 1, 0), -1);
        due("TENTH 0 goes first", x.valley(1, 0, 0), 52);
    }

    static void p24_the_last_number_of_2_to_8_tenths() {
        says("the least WORTH of all on the way");
        for (int n = 2; n <= 8; n++) {
            OverABar x = flat("mark 9;run 18;", n);
            x.way(1, n, 1);
            due("WAYS of " + n + " TENTHS that are alike", x.valley(0, 1, 0), 999);
            x.put(1, n - 1, 3, 0, -1);
            due("the last number is less", x.valley(0, 1, 0), 999);
            // the pit does not bear it
            x.put(1, n - 1, 3, 0, 1);
            due("the last number is more", x.valley(0, 1, 0), -1);
        }
    }

    static void p24_becomes_at_one_stroke() {
        says("number by number");
        says("becomes that of the other one,");
        // from -6 to 6 there is no step at 0
        OverABar x = pair(LOW_BAR + "quick 18;bend 0 18;");
        // PART 0, X 6, is at 18 and not NEAR; X 0 would be
        x.put(0, 3, 0, 6, -9);
        x.put(1, 3, 0, -6, -9);
        due("worth(0, -1)", x.worth(0, -1), 12);
        due("valley(0, 1, 0)", x.valley(0, 1, 0), 12);
        due("valley(0, 1, 1)", x.valley(0, 1, 1), 1);
    }

    static void p24_numbers_that_become_others() {
        says("numbers that become others (1).");
        says("where it is unlike;");
        for (int n = 2; n <= 8; n += 6) {
            OverABar x = flat("", n);
            x.way(1, n, 1);
            due("none", x.valley(0, 1, 1), 0);
            x.put(1, 0, 0, 1, 0);
            due("the first number", x.valley(0, 1, 1), 1);
            x.put(1, n - 1, 3, 0, -1);
            due("the last number, too", x.valley(0, 1, 1), 2);
            for (int i = 0; i < 4 * n; i++) {
                x.put(1, i / 4, i % 4, 9, -9);
            }
            due("all numbers", x.valley(0, 1, 1), 8 * n);
            due("all numbers, back", x.valley(1, 0, 1), 8 * n);
        }
    }

    static void p24_state() {
        says("STATE: they have not as many TENTHS.");
        OverABar x = flat("", 7);
        x.way(1, 6, 1);
        x.way(2, 8, 1);
        for (int what = 0; what <= 1; what++) {
            due("7 to 6 TENTHS", x.valley(0, 1, what), STATE);
            due("7 to 8 TENTHS", x.valley(0, 2, what), STATE);
            due("8 to 7 TENTHS", x.valley(2, 0, what), STATE);
        }
        refused("valley(0, 3, 0)", y -> y.valley(0, 3, 0), STATE);
        refused("valley(3, 0, 1)", y -> y.valley(3, 0, 1), STATE);
    }

    static void p24_bad_ahead_of_state() {
        says("the first that fits;");
        refused("valley(0, 3, 2)", x -> x.valley(0, 3, 2), BAD);
        refused("valley(3, 0, -1)", x -> x.valley(3, 0, -1), BAD);
        refused("valley(0, 1, 0)", x -> x.valley(0, 1, 0), BAD);
    }

    static void p24_bad() {
        says("BAD: also no WAY;");
        for (int w : new int[] {1, -1, 6, MIN, MAX}) {
            refused("valley(" + w + ", 0, 0)", x -> x.valley(w, 0, 0), BAD);
            refused("valley(0, " + w + ", 1)", x -> x.valley(0, w, 1), BAD);
            refused("valley(" + w + ", " + w + ", 1)", x -> x.valley(w, w, 1), BAD);
        }
        for (int what : new int[] {-1, 2, MIN, MAX}) {
            refused("valley(0, 0, " + what + ")", x -> x.valley(0, 0, what), BAD);
        }
    }

    // ---- 25: best

    /** WAY 0 clears 52, WAY 1 53. */
    private static OverABar two() {
        OverABar x = pair("");
        x.put(1, 3, 3, 4, -4);
        return x;
    }

    static void p25_the_greatest_of_several_the_least() {
        says("The WAY with the greatest WORTH, of several the least (what 0;");
        OverABar x = two();
        due("best(0)", x.best(0), 1);
        x.copy(1, 5);
        due("best(0) of WAYS 1 and 5", x.best(0), 1);
        x.copy(0, 1);
        due("best(0), WAY 5", x.best(0), 5);
        x.copy(5, 0);
        due("best(0) of WAYS 0 and 5", x.best(0), 0);
        tells("best(0)", y -> y.best(0));
    }

    static void p25_none_above_minus_1() {
        says("NONE: none above -1),");
        OverABar x = new OverABar();
        due("best(0) of no WAYS", x.best(0), NONE);
        for (int w = 0; w < 6; w++) {
            x.way(w, 7, 2);
        }
        due("best(0), all BARRED", x.best(0), NONE);
        Bench.tell(x, "stand 17;rise 0;feet 2;");
        due("best(0), all below 0", x.best(0), NONE);
        Bench.tell(x, "stand 18;rise 0;feet 2;");
        due("best(0), all at 0", x.best(0), 0);
    }

    static void p25_that_worth() {
        says("that WORTH (1; -1).");
        due("best(1)", two().best(1), 53);
        OverABar x = new OverABar();
        due("best(1) of no WAYS", x.best(1), -1);
        x.way(5, 7, 2);
        due("best(1), BARRED", x.best(1), -1);
        Bench.tell(x, "stand 18;rise 0;feet 2;");
        due("best(1) of 0", x.best(1), 0);
    }

    static void p25_bad() {
        says("BAD.");
        for (int what : new int[] {-1, 2, MIN, MAX}) {
            refused("best(" + what + ")", x -> x.best(what), BAD);
        }
    }

    // ---- 26: suits

    static void p26_if_a_part_weighed_v() {
        says("That WAY, if a PART weighed v (1 to 20) instead.");
        OverABar x = two();
        due("suits(3, 5), as it is", x.suits(3, 5), 1);
        // ALL 16: PART 3 lifts WAY 1 by 4 of 16
        due("suits(3, 1)", x.suits(3, 1), 0);
        // PART 3 is NEAR then, and low
        due("suits(3, 20)", x.suits(3, 20), 0);
        due("suits(0, 20)", x.suits(0, 20), 0);
        due("suits(0, 1)", x.suits(0, 1), 1);
        due("best(0) stays", x.best(0), 1);
    }

    static void p26_v_from_1_to_20() {
        says("v (1 to 20) instead.");
        OverABar x = two();
        for (int p = 0; p < 4; p++) {
            due("suits(" + p + ", 1) is a WAY", x.suits(p, 1) >= 0 ? 1 : 0, 1);
            due("suits(" + p + ", 20) is a WAY", x.suits(p, 20) >= 0 ? 1 : 0, 1);
            for (int v : new int[] {0, 21, -1, MIN, MAX}) {
                due("suits(" + p + ", " + v + ")", x.suits(p, v), BAD);
            }
        }
        for (int what = 0; what < 4; what++) {
            due("the WEIGHT stays", x.rule(what), 5);
        }
    }

    static void p26_none_likewise() {
        says("NONE likewise.");
        OverABar x = new OverABar();
        due("suits of no WAYS", x.suits(0, 5), NONE);
        x.way(0, 7, 2);
        due("suits, BARRED", x.suits(3, 20), NONE);
        // at 0 as it is; PART 1 at 1 and PART 0 at -1: 5 by 20 less, or 20 by 35
        x = flat("stand 18;rise 0;", 7);
        due("suits at 0", x.suits(0, 20), 0);
        putY(x, 0, 3, 1, -1, 0, 0);
        due("suits below 0", x.suits(0, 20), NONE);
    }

    static void p26_bad_changes_nothing() {
        says("BAD;");
        says("what is refused changes nothing");
        int[][] wrong = {{-1, 5}, {4, 5}, {0, 0}, {0, 21}, {3, 0}, {3, 21}, {MIN, 5}, {MAX, 5}};
        for (int[] a : wrong) {
            refused("suits(" + a[0] + ", " + a[1] + ")", x -> x.suits(a[0], a[1]), BAD);
        }
        tells("suits(0, 1)", x -> x.suits(0, 1));
        tells("suits(3, 20)", x -> x.suits(3, 20));
    }
}
