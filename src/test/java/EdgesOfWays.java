/** Edges of promises 7 to 19: ways. */
final class EdgesOfWays extends Edges {

    // ---- 7: way

    static void p07_ways_0_to_5() {
        says("WAYS 0 to 5 have");
        OverABar x = new OverABar();
        for (int w = 0; w <= 5; w++) {
            due("way(" + w + ", 2, 1)", x.way(w, 2, 1), 0);
        }
        due("count(0)", x.count(0), 6);
        for (int w : NO_WAY_NUMBERS) {
            due("way(" + w + ", 2, 1)", x.way(w, 2, 1), BAD);
        }
    }

    static void p07_tenths_2_to_8() {
        says("n TENTHS (2 to 8;");
        OverABar x = new OverABar();
        for (int n : new int[] {1, 0, -2, 9, MIN, MAX}) {
            due("way(0, " + n + ", 1)", x.way(0, n, 1), BAD);
            due("there is no WAY", x.of(0, 0), BAD);
        }
        for (int n = 2; n <= 8; n++) {
            due("way(0, " + n + ", 1)", x.way(0, n, 1), n == 2 ? 0 : n - 1);
            due("of(0, 0)", x.of(0, 0), n);
        }
    }

    static void p07_none_at_first() {
        says("none at first: no WAY)");
        OverABar x = new OverABar();
        for (int w = 0; w <= 5; w++) {
            due("of(" + w + ", 0)", x.of(w, 0), BAD);
            due("of(" + w + ", 1)", x.of(w, 1), BAD);
            due("put", x.put(w, 0, 0, 0, 0), BAD);
        }
    }

    static void p07_feet_1_or_2() {
        says("and FEET (1 or 2);");
        OverABar x = new OverABar();
        due("way(0, 2, 1)", x.way(0, 2, 1), 0);
        due("of(0, 1)", x.of(0, 1), 1);
        due("way(0, 2, 2)", x.way(0, 2, 2), 2);
        due("of(0, 1)", x.of(0, 1), 2);
        for (int feet : new int[] {0, 3, -1, MIN, MAX}) {
            due("way(0, 2, " + feet + ")", x.way(0, 2, feet), BAD);
        }
        due("of(0, 1) behind what is refused", x.of(0, 1), 2);
    }

    static void p07_anew_all_are_0() {
        says("A WAY (anew, if there was one) has n TENTHS, FEET; all X and Y are 0:");
        OverABar x = new OverABar();
        x.way(0, 8, 1);
        for (int i = 0; i < 32; i++) {
            x.put(0, i / 4, i % 4, 9, -9);
        }
        due("way(0, 2, 2)", x.way(0, 2, 2), 8);
        due("of(0, 0)", x.of(0, 0), 2);
        due("of(0, 1)", x.of(0, 1), 2);
        due("way(0, 8, 1)", x.way(0, 8, 1), 2);
        for (int i = 0; i < 64; i++) {
            due("number " + i, x.at(0, i / 8, i % 8 / 2, i % 2), 0);
        }
    }

    static void p07_anew_of_one_way_alone() {
        says("A WAY (anew, if there was one)");
        OverABar x = new OverABar();
        x.way(0, 3, 1);
        x.way(1, 3, 1);
        x.put(0, 2, 3, 4, 5);
        x.put(1, 2, 3, 6, 7);
        x.way(0, 3, 1);
        due("at(1, 2, 3, 0)", x.at(1, 2, 3, 0), 6);
        due("at(1, 2, 3, 1)", x.at(1, 2, 3, 1), 7);
    }

    static void p07_how_many_tenths_it_had() {
        says("how many TENTHS it had (0: none).");
        OverABar x = new OverABar();
        due("way(5, 8, 1)", x.way(5, 8, 1), 0);
        due("way(5, 2, 1)", x.way(5, 2, 1), 8);
        due("way(5, 2, 1)", x.way(5, 2, 1), 2);
        due("way(4, 2, 1)", x.way(4, 2, 1), 0);
    }

    static void p07_bad_changes_nothing() {
        says("BAD.");
        says("what is refused changes nothing");
        int[][] wrong = {{-1, 2, 1}, {6, 2, 1}, {0, 1, 1}, {0, 9, 1}, {0, 2, 0}, {0, 2, 3}, {1, 1, 1}, {1, 2, 0}};
        for (int[] a : wrong) {
            refused("way(" + a[0] + ", " + a[1] + ", " + a[2] + ")", x -> x.way(a[0], a[1], a[2]), BAD);
        }
    }

    // ---- 8: put

    static void p08_x_and_y_from_minus_9_to_9() {
        says("in each TENTH t (0 first) each PART has X and Y (-9 to 9).");
        OverABar x = flat("", 2);
        for (int v = -9; v <= 9; v++) {
            due("put(0, 0, 0, " + v + ", " + -v + ")", x.put(0, 0, 0, v, -v), 1);
            due("X", x.at(0, 0, 0, 0), v);
            due("Y", x.at(0, 0, 0, 1), -v);
        }
        for (int v : new int[] {-10, 10, MIN, MAX}) {
            due("put(0, 0, 0, " + v + ", 3)", x.put(0, 0, 0, v, 3), BAD);
            due("put(0, 0, 0, 3, " + v + ")", x.put(0, 0, 0, 3, v), BAD);
            due("X behind what is refused", x.at(0, 0, 0, 0), 9);
            due("Y behind what is refused", x.at(0, 0, 0, 1), -9);
        }
    }

    static void p08_of_one_part_in_one_tenth() {
        says("X and Y of a PART in a TENTH of a WAY: 1.");
        for (int i = 0; i < 32; i++) {
            OverABar x = flat("", 8);
            x.way(1, 8, 1);
            due("put", x.put(0, i / 4, i % 4, 5, -6), 1);
            for (int k = 0; k < 32; k++) {
                due("X of PART " + k % 4 + " in TENTH " + k / 4, x.at(0, k / 4, k % 4, 0), k == i ? 5 : 0);
                due("Y of PART " + k % 4 + " in TENTH " + k / 4, x.at(0, k / 4, k % 4, 1), k == i ? -6 : 0);
            }
            due("X of the other WAY", x.at(1, i / 4, i % 4, 0), 0);
        }
    }

    static void p08_bad_changes_nothing() {
        says("BAD: also no WAY.");
        says("what is refused changes nothing");
        // WAY 0 has 4 TENTHS, WAY 1 is none
        int[][] wrong = {{1, 0, 0, 1, 1}, {-1, 0, 0, 1, 1}, {6, 0, 0, 1, 1}, {0, -1, 0, 1, 1}, {0, 4, 0, 1, 1},
            {0, MAX, 0, 1, 1}, {0, 0, -1, 1, 1}, {0, 0, 4, 1, 1}, {0, 0, MIN, 1, 1}, {0, 0, 0, 10, 1}, {0, 0, 0, 1, 10},
            {0, 0, 0, -10, 1}, {0, 0, 0, 1, -10}, {3, 2, 0, 1, 1}};
        for (int[] a : wrong) {
            String call = "put(" + a[0] + ", " + a[1] + ", " + a[2] + ", " + a[3] + ", " + a[4] + ")";
            refused(call, x -> x.put(a[0], a[1], a[2], a[3], a[4]), BAD);
        }
    }

    // ---- 9: at

    static void p09_x_and_y() {
        says("Of a PART in a TENTH: X (what 0), Y (1).");
        OverABar x = flat("", 2);
        x.put(0, 0, 0, -9, 9);
        x.put(0, 1, 3, -1, 7);
        due("at(0, 0, 0, 0)", x.at(0, 0, 0, 0), -9);
        due("at(0, 0, 0, 1)", x.at(0, 0, 0, 1), 9);
        due("at(0, 1, 3, 0), not BAD", x.at(0, 1, 3, 0), -1);
        due("at(0, 1, 3, 1)", x.at(0, 1, 3, 1), 7);
        tells("at(0, 3, 3, 0)", y -> y.at(0, 3, 3, 0));
    }

    static void p09_bad_minus_1000() {
        says("BAD -1000.");
        int[][] wrong = {{1, 0, 0, 0}, {-1, 0, 0, 0}, {6, 0, 0, 0}, {0, -1, 0, 0}, {0, 4, 0, 0}, {3, 2, 0, 0},
            {0, 0, -1, 0}, {0, 0, 4, 0}, {0, 0, 0, -1}, {0, 0, 0, 2}, {MIN, 0, 0, 0}, {0, MAX, 0, 0}, {0, 0, MIN, 0},
            {0, 0, 0, MAX}};
        for (int[] a : wrong) {
            String call = "at(" + a[0] + ", " + a[1] + ", " + a[2] + ", " + a[3] + ")";
            refused(call, x -> x.at(a[0], a[1], a[2], a[3]), -1000);
        }
    }

    // ---- 10: of

    static void p10_tenths_and_feet() {
        says("Of a WAY: 0 TENTHS, 1 FEET.");
        OverABar x = new OverABar();
        x.way(0, 2, 2);
        x.way(5, 8, 1);
        due("of(0, 0)", x.of(0, 0), 2);
        due("of(0, 1)", x.of(0, 1), 2);
        due("of(5, 0)", x.of(5, 0), 8);
        due("of(5, 1)", x.of(5, 1), 1);
        tells("of(0, 1)", y -> y.of(0, 1));
    }

    static void p10_bad() {
        says("BAD: also no WAY.");
        int[][] wrong = {{1, 0}, {1, 1}, {-1, 0}, {6, 0}, {0, -1}, {0, 2}, {MIN, 0}, {MAX, 0}, {0, MAX}};
        for (int[] a : wrong) {
            refused("of(" + a[0] + ", " + a[1] + ")", x -> x.of(a[0], a[1]), BAD);
        }
    }

    // ---- 11: copy

    static void p11_becomes_as_another_one() {
        says("A WAY becomes as another one: 1.");
        OverABar x = new OverABar();
        x.way(0, 2, 2);
        x.put(0, 0, 0, -9, 9);
        x.put(0, 1, 3, 8, -8);
        x.way(5, 8, 1);
        x.put(5, 1, 3, 1, 1);
        due("copy(0, 5), which had more TENTHS", x.copy(0, 5), 1);
        due("of(5, 0)", x.of(5, 0), 2);
        due("of(5, 1)", x.of(5, 1), 2);
        due("at(5, 0, 0, 0)", x.at(5, 0, 0, 0), -9);
        due("at(5, 1, 3, 1)", x.at(5, 1, 3, 1), -8);
        due("at(5, 2, 0, 0)", x.at(5, 2, 0, 0), -1000);
        due("copy(0, 1), which was none", x.copy(0, 1), 1);
        due("of(1, 0)", x.of(1, 0), 2);
        due("of(0, 0): the first one stays", x.of(0, 0), 2);
    }

    static void p11_becomes_as_itself() {
        says("A WAY becomes as another one: 1.");
        tells("copy(0, 0)", x -> x.copy(0, 0));
        OverABar x = crowd();
        due("copy(0, 0)", x.copy(0, 0), 1);
    }

    static void p11_each_goes_on_by_itself() {
        says("A WAY becomes as another one: 1.");
        OverABar x = flat("", 2);
        x.copy(0, 1);
        x.put(0, 0, 0, 3, 3);
        due("at(1, 0, 0, 0)", x.at(1, 0, 0, 0), 0);
        x.put(1, 1, 1, 4, 4);
        due("at(0, 1, 1, 0)", x.at(0, 1, 1, 0), 0);
    }

    static void p11_bad_changes_nothing() {
        says("BAD: also, if that is none.");
        says("what is refused changes nothing");
        int[][] wrong = {{1, 0}, {1, 1}, {5, 3}, {-1, 0}, {6, 0}, {0, -1}, {0, 6}, {MIN, 0}, {0, MAX}};
        for (int[] a : wrong) {
            refused("copy(" + a[0] + ", " + a[1] + ")", x -> x.copy(a[0], a[1]), BAD);
        }
    }

    // ---- 12: place

    static void p12_all_and_middle() {
        says("ALL: WEIGHTS, summed.");
        says("MIDDLE of a TENTH: WEIGHTS times X (Y), summed.");
        // ALL is 4, then 80; a PART's X of 1 in TENTH 3, where run times t less mark is 0
        OverABar x = flat(LIGHT, 7);
        x.put(0, 3, 2, 1, 0);
        due("PLACE of PART 2 by the least WEIGHTS", x.place(0, 3, 2, 0), 4 - 1);
        due("PLACE of PART 0 by the least WEIGHTS", x.place(0, 3, 0, 0), -1);
        Bench.tell(x, "weight 0 20;weight 1 20;weight 2 20;weight 3 20;");
        due("PLACE of PART 2 by the greatest WEIGHTS", x.place(0, 3, 2, 0), 80 - 20);
        due("PLACE of PART 0 by the greatest WEIGHTS", x.place(0, 3, 0, 0), -20);
        Bench.tell(x, "weight 0 1;weight 1 2;weight 2 3;weight 3 4;");
        putX(x, 0, 3, 1, 10 - 3, -5, 2);
        // 1 + 14 - 15 + 8 = 8
        due("PLACE of PART 1 by unlike WEIGHTS", x.place(0, 3, 1, 0), 70 - 8);
    }

    static void p12_across_least_and_greatest() {
        says("PLACE of a PART in TENTH t, ALL times: across: ALL times (run times t, less mark) and ALL times X less MIDDLE;");
        OverABar x = flat("weight 0 20;weight 1 20;weight 2 20;weight 3 20;mark 99;run 1;", 8);
        // MIDDLE 20 times (-9 + 27)
        putX(x, 0, 0, -9, 9, 9, 9);
        due("the least", x.place(0, 0, 0, 0), 80 * -99 + 80 * -9 - 360);
        Bench.tell(x, "weight 0 20;weight 1 20;weight 2 20;weight 3 20;mark 0;run 20;");
        putX(x, 0, 7, -9, -9, -9, 9);
        due("the greatest", x.place(0, 7, 3, 0), 80 * 140 + 80 * 9 + 360);
        due("TENTH 0, mark 0", x.place(0, 0, 1, 0), 80 * 9 - 360);
    }

    static void p12_up_least_and_greatest() {
        says("up: ALL times (stand and rise times t, less fall times t times t) and ALL times Y less MIDDLE.");
        OverABar x = flat("weight 0 20;weight 1 20;weight 2 20;weight 3 20;stand 0;rise 0;fall 9;", 8);
        putY(x, 0, 7, -9, 9, 9, 9);
        due("the least", x.place(0, 7, 0, 1), 80 * -441 + 80 * -9 - 360);
        Bench.tell(x, "weight 0 20;weight 1 20;weight 2 20;weight 3 20;stand 30;rise 60;fall 1;");
        putY(x, 0, 7, -9, -9, -9, 9);
        due("the greatest", x.place(0, 7, 3, 1), 80 * (30 + 420 - 49) + 80 * 9 + 360);
        due("TENTH 0", x.place(0, 0, 3, 1), 80 * 30);
    }

    static void p12_across_and_up() {
        says("PLACE of a PART, ALL times: across (what 0), up (1).");
        OverABar x = flat("", 3);
        due("place(0, 0, 0, 0)", x.place(0, 0, 0, 0), 20 * -15);
        due("place(0, 0, 0, 1)", x.place(0, 0, 0, 1), 20 * 10);
        due("place(0, 2, 3, 0)", x.place(0, 2, 3, 0), 20 * -5);
        due("place(0, 2, 3, 1)", x.place(0, 2, 3, 1), 20 * (10 + 40 - 8));
        tells("place(0, 3, 3, 1)", y -> y.place(0, 3, 3, 1));
    }

    static void p12_bad_minus_1000000() {
        says("BAD -1000000.");
        int[][] wrong = {{1, 0, 0, 0}, {-1, 0, 0, 0}, {6, 0, 0, 0}, {0, -1, 0, 0}, {0, 4, 0, 0}, {3, 2, 0, 0},
            {0, 0, -1, 0}, {0, 0, 4, 0}, {0, 0, 0, -1}, {0, 0, 0, 2}, {MAX, 0, 0, 0}, {0, MIN, 0, 0}, {0, 0, MAX, 0},
            {0, 0, 0, MIN}};
        for (int[] a : wrong) {
            String call = "place(" + a[0] + ", " + a[1] + ", " + a[2] + ", " + a[3] + ")";
            refused(call, x -> x.place(a[0], a[1], a[2], a[3]), -1000000);
        }
    }

    // ---- 13: near

    static void p13_no_farther_than_near_either_side() {
        says("A PART is NEAR the bar in a TENTH, if it is across no farther from 0 than ALL times near (either side).");
        says("Whether a PART is NEAR in a TENTH (1, 0).");
        for (int p = 0; p < 4; p++) {
            for (int side = -1; side <= 1; side += 2) {
                // ALL times near is 8; PLACE is 4 X less the sum of X
                OverABar x = flat(LIGHT, 7);
                x.put(0, 3, p, 3 * side, 0);
                due("PLACE", x.place(0, 3, p, 0), 9 * side);
                due("near at " + 9 * side, x.near(0, 3, p), 0);
                x.put(0, 3, (p + 1) % 4, side, 0);
                due("PLACE", x.place(0, 3, p, 0), 8 * side);
                due("near at " + 8 * side, x.near(0, 3, p), 1);
                due("near of another PART", x.near(0, 3, (p + 2) % 4), 1);
            }
        }
    }

    static void p13_near_0_and_9() {
        says("A PART is NEAR the bar in a TENTH, if it is across no farther from 0 than ALL times near (either side).");
        OverABar x = flat(LIGHT + "near 0;", 7);
        due("near 0 at 0", x.near(0, 3, 1), 1);
        x.put(0, 3, 0, 1, 0);
        due("near 0 at -1", x.near(0, 3, 1), 0);
        x.put(0, 3, 0, -1, 0);
        due("near 0 at 1", x.near(0, 3, 1), 0);
        // TENTH 1 is 9 ahead of the bar, TENTH 2 9 behind it
        x = flat(LIGHT + "near 9;mark 27;run 18;", 4);
        due("near 9 at -36", x.near(0, 1, 0), 1);
        due("near 9 at 36", x.near(0, 2, 0), 1);
        x.put(0, 1, 1, 1, 0);
        x.put(0, 2, 1, -1, 0);
        due("near 9 at -37", x.near(0, 1, 0), 0);
        due("near 9 at 37", x.near(0, 2, 0), 0);
    }

    static void p13_bad() {
        says("BAD.");
        int[][] wrong = {{1, 0, 0}, {-1, 0, 0}, {6, 0, 0}, {0, -1, 0}, {0, 4, 0}, {3, 2, 0}, {0, 0, -1}, {0, 0, 4},
            {MAX, 0, 0}, {0, MAX, 0}, {0, 0, MIN}};
        for (int[] a : wrong) {
            refused("near(" + a[0] + ", " + a[1] + ", " + a[2] + ")", x -> x.near(a[0], a[1], a[2]), BAD);
        }
        tells("near(0, 3, 3)", x -> x.near(0, 3, 3));
    }

    // ---- 14: high

    /** Two TENTHS, one place ahead of the bar and one behind it: PLACES -4 and 4. */
    private static OverABar astride() {
        return flat(LIGHT + "mark 1;run 2;", 2);
    }

    static void p14_across_below_0_in_tenth_0() {
        says("A WAY gets ACROSS, if in TENTH 0 all PARTS are across below 0,");
        for (int p = 0; p < 4; p++) {
            OverABar x = astride();
            x.put(0, 0, p, 1, 0);
            due("PLACE", x.place(0, 0, p, 0), -1);
            due("high at -1", x.high(0), 10);
            x.put(0, 0, (p + 1) % 4, -1, 0);
            due("PLACE", x.place(0, 0, p, 0), 0);
            due("high at 0", x.high(0), NONE);
            x.put(0, 0, (p + 2) % 4, -1, 0);
            due("PLACE", x.place(0, 0, p, 0), 1);
            due("high at 1", x.high(0), NONE);
        }
    }

    static void p14_across_above_0_in_the_last_tenth() {
        says("in the last one all above 0.");
        for (int p = 0; p < 4; p++) {
            OverABar x = astride();
            x.put(0, 1, p, -1, 0);
            due("PLACE", x.place(0, 1, p, 0), 1);
            due("high at 1", x.high(0), 10);
            x.put(0, 1, (p + 1) % 4, 1, 0);
            due("PLACE", x.place(0, 1, p, 0), 0);
            due("high at 0", x.high(0), NONE);
            x.put(0, 1, (p + 2) % 4, 1, 0);
            due("PLACE", x.place(0, 1, p, 0), -1);
            due("high at -1", x.high(0), NONE);
        }
    }

    static void p14_across_by_first_and_last_tenth_alone() {
        says("A WAY gets ACROSS, if in TENTH 0 all PARTS are across below 0, in the last one all above 0.");
        due("3 TENTHS, the last ahead of the bar", flat("", 3).high(0), NONE);
        due("4 TENTHS, the last at the bar", flat("", 4).high(0), NONE);
        due("5 TENTHS, the last behind the bar", flat("", 5).high(0), 52);
        due("8 TENTHS", flat("", 8).high(0), 52);
        due("mark 0: TENTH 0 at the bar", flat("mark 0;", 8).high(0), NONE);
        // a PART that goes back in between does no harm
        OverABar x = flat("", 8);
        x.put(0, 6, 0, -9, 0);
        x.put(0, 1, 3, 9, 0);
        due("high", x.high(0), 52);
    }

    static void p14_the_least_of_all_that_are_near() {
        says("HIGH of a WAY that gets ACROSS: the least PLACE up of all that are NEAR, by ALL,");
        says("HIGH.");
        // TENTH 3 alone is NEAR: 40 and 4 Y less the sum of Y
        OverABar x = flat(LIGHT + "stand 28;rise 0;", 7);
        due("high", x.high(0), 10);
        for (int p = 0; p < 4; p++) {
            x.way(0, 7, 1);
            x.put(0, 3, p, 0, -4);
            due("PART " + p + " at 28", x.high(0), 7);
            x.put(0, 2, p, 0, -9);
            x.put(0, 4, p, 0, -9);
            due("what is low, but not NEAR", x.high(0), 7);
            // PART p at 27, the others at -9: near 2 are 8, near 3 are 12
            x.put(0, 3, p, 9, -4);
            due("none is NEAR", x.high(0), 999);
        }
        Bench.tell(x, LIGHT + "stand 28;rise 0;near 3;");
        due("PART 3 is not NEAR, the others are at 44", x.high(0), 11);
    }

    static void p14_the_least_of_several_tenths() {
        says("the least PLACE up of all that are NEAR,");
        // NEAR in TENTHS 2, 3, 4: 42, 52, 58 up
        OverABar x = flat("near 5;", 7);
        due("high of three TENTHS", x.high(0), 42);
        putY(x, 0, 4, 0, 0, 0, -9);
        // 58 less 9, and 9 by 4
        due("PLACE", x.place(0, 4, 3, 1), 20 * 58 - 180 + 45);
        due("high of three TENTHS", x.high(0), 42);
        Bench.tell(x, "near 5;rise 15;");
        // 32, 37, 38 less 6 and 3 by 4
        due("high by TENTH 4", x.high(0), 31);
    }

    static void p14_divided_down() {
        says("divided down");
        says("Divided down is to the next whole number below.");
        // PART 3 is not NEAR; its Y lifts the others by one PLACE each: 40 to 44
        OverABar x = flat(LIGHT + "stand 28;rise 0;near 3;", 7);
        int[] want = {10, 10, 10, 10, 11, 11, 11, 11, 12, 12};
        for (int y = 0; y <= 9; y++) {
            x.put(0, 3, 3, 9, -y);
            due("PLACE", x.place(0, 3, 0, 1), 40 + y);
            due("high of " + (40 + y) + " by 4", x.high(0), want[y]);
        }
        x.put(0, 3, 3, 9, 1);
        due("high of 39 by 4", x.high(0), 9);
    }

    static void p14_999_if_none_is_ever_near() {
        says("(999, if none is ever NEAR,");
        // the WAY is 9 ahead of the bar, then 9 behind it
        due("near 9 at 9", flat(LIGHT + "mark 9;run 18;near 9;", 2).high(0), 10);
        due("near 8 at 9", flat(LIGHT + "mark 9;run 18;near 8;", 2).high(0), 999);
        due("near 0", flat(LIGHT + "mark 9;run 18;near 0;", 2).high(0), 999);
        due("none NEAR, though all is below 0", flat(LIGHT + "mark 9;run 18;stand 0;rise 0;", 2).high(0), 999);
        due("none NEAR, but not ACROSS", flat(LIGHT + "mark 99;run 20;", 2).high(0), NONE);
    }

    static void p14_or_it_is_more() {
        says("or it is more);");
        // nothing that is NEAR is ever above 999: this is the greatest
        OverABar x = flat("weight 0 1;weight 1 20;weight 2 20;weight 3 20;rise 60;fall 1;stand 30;run 14;mark 93;near 5;", 8);
        // TENTH 7 alone is NEAR, 5 behind the bar: 30 + 420 - 49 up
        due("high", x.high(0), 401);
        putX(x, 0, 7, 4, 9, 9, 9);
        putY(x, 0, 7, 9, -9, -9, -9);
        // PART 0 alone is NEAR; the others are 5 PLACES too far
        due("PLACE of PART 0 across", x.place(0, 7, 0, 0), 61 * (5 + 4) - 544);
        due("PLACE of PART 1 across", x.place(0, 7, 1, 0), 61 * 5 + 5);
        due("PLACE of PART 0 up", x.place(0, 7, 0, 1), 61 * (401 + 9) + 531);
        due("high", x.high(0), 418);
    }

    static void p14_none_if_that_is_below_0() {
        says("NONE, if that is below 0,");
        // TENTH 3: 18 - 2 * 9
        OverABar x = flat(LIGHT + "stand 18;rise 0;", 7);
        due("high of 0", x.high(0), 0);
        x.put(0, 3, 2, 0, 1);
        due("PLACE", x.place(0, 3, 0, 1), -1);
        due("high of -1 by 4", x.high(0), NONE);
        due("worth", x.worth(0, -1), -1);
        Bench.tell(x, LIGHT + "stand 17;rise 0;");
        due("high of -5 by 4", x.high(0), NONE);
        Bench.tell(x, LIGHT + "stand 19;rise 0;");
        due("high of 3 by 4", x.high(0), 0);
    }

    static void p14_none_if_it_does_not_get_across() {
        says("or it does not get ACROSS.");
        says("NONE.");
        OverABar x = flat("", 4);
        due("high", x.high(0), NONE);
        tells("high(0)", y -> y.high(0));
        tells("high(3)", y -> y.high(3));
    }

    static void p14_bad() {
        says("BAD: no WAY;");
        for (int w : new int[] {1, -1, 6, MIN, MAX}) {
            refused("high(" + w + ")", x -> x.high(w), BAD);
        }
    }

    // ---- 15: lowest

    static void p15_four_times_the_tenth_and_the_part() {
        says("Which PART in which TENTH sets HIGH: 4 times the TENTH and the PART,");
        for (int t = 0; t < 8; t++) {
            for (int p = 0; p < 4; p++) {
                // all TENTHS are NEAR, at 30 to 42 up; one PART is 13 lower than its TENTH
                OverABar x = flat("mark 4;run 1;near 9;stand 30;rise 7;fall 1;", 8);
                putY(x, 0, t, 9, 9, 9, 9);
                x.put(0, t, p, 0, -9);
                due("PART " + p + " in TENTH " + t, x.lowest(0), 4 * t + p);
            }
        }
    }

    static void p15_of_several_the_least() {
        says("of several the least.");
        OverABar x = flat("", 7);
        due("all PARTS of a TENTH", x.lowest(0), 12);
        x.put(0, 3, 2, 0, -1);
        x.put(0, 3, 1, 0, -1);
        due("PARTS 1 and 2", x.lowest(0), 13);
        // TENTHS 2 and 4 at 18, TENTH 3 at 19
        due("two TENTHS", flat("near 9;rise 6;fall 1;", 7).lowest(0), 8);
        x = flat("near 9;rise 6;fall 1;", 7);
        x.put(0, 2, 0, 0, 1);
        x.put(0, 4, 0, 0, 1);
        due("three PARTS of two TENTHS", x.lowest(0), 9);
    }

    static void p15_by_place_ahead_of_dividing() {
        says("Which PART in which TENTH sets HIGH:");
        // TENTHS 3 and 4 are NEAR, both at 34 up; PART 3 is NEAR in neither
        OverABar x = flat(LIGHT + "rise 14;run 6;mark 20;near 5;", 7);
        x.put(0, 3, 3, -9, -3);
        x.put(0, 4, 3, 9, -2);
        due("PLACE in TENTH 3", x.place(0, 3, 0, 1), 4 * 34 + 3);
        due("PLACE in TENTH 4", x.place(0, 4, 0, 1), 4 * 34 + 2);
        due("high", x.high(0), 34);
        due("lowest", x.lowest(0), 16);
    }

    static void p15_none_if_high_is_none() {
        says("NONE: HIGH is NONE,");
        due("not ACROSS", flat("", 4).lowest(0), NONE);
        due("below 0", flat("stand 17;rise 0;", 7).lowest(0), NONE);
        due("at 0", flat("stand 18;rise 0;", 7).lowest(0), 12);
    }

    static void p15_none_if_none_is_ever_near() {
        says("or none is ever NEAR.");
        due("near 8 at 9", flat(LIGHT + "mark 9;run 18;near 8;", 2).lowest(0), NONE);
        due("near 9 at 9", flat(LIGHT + "mark 9;run 18;near 9;", 2).lowest(0), 0);
    }

    static void p15_bad() {
        says("BAD;");
        for (int w : new int[] {1, -1, 6, MIN, MAX}) {
            refused("lowest(" + w + ")", x -> x.lowest(w), BAD);
        }
        tells("lowest(0)", x -> x.lowest(0));
    }

    // ---- 16: under

    static void p16_the_greatest_of_tenths_that_are_near() {
        says("How far MIDDLE is beneath HIGH: the greatest ALL times (stand and rise times t, less fall times t times t) "
            + "of TENTHS in which some PART is NEAR, less ALL times HIGH");
        due("one TENTH", flat("", 7).under(0), 0);
        // TENTHS 2 to 4: 42, 52, 58; TENTH 5 at 60 is not NEAR
        due("three TENTHS", flat("near 9;", 7).under(0), 20 * (58 - 42));
        // one PART alone of TENTH 5 is NEAR then: 200 less 180 less 4 by 45
        OverABar x = flat("near 9;", 7);
        x.put(0, 5, 0, -9, 0);
        due("PLACE", x.place(0, 5, 0, 0), 200 - 180 + 45);
        due("four TENTHS", x.under(0), 20 * (60 - 42));
        // TENTHS 0 and 1: 10, 8: the first is the greatest, the last sets HIGH
        due("TENTH 0", flat("mark 1;run 2;rise 0;", 2).under(0), 20 * (10 - 8));
        due("TENTH 1", flat("mark 1;run 2;", 2).under(0), 20 * (28 - 10));
    }

    static void p16_less_all_times_high_divided_down() {
        says("less ALL times HIGH");
        OverABar x = flat("", 7);
        x.put(0, 3, 0, 0, 1);
        // the others are at 1035: HIGH is 51
        due("under", x.under(0), 1040 - 20 * 51);
    }

    static void p16_can_be_below_0() {
        says("(can be below 0: the weight goes under the bar).");
        OverABar x = flat("", 7);
        x.put(0, 3, 3, 4, -3);
        due("PLACE", x.place(0, 3, 0, 1), 1055);
        due("under, HIGH is 52", x.under(0), 0);
        x.put(0, 3, 3, 4, -4);
        due("PLACE", x.place(0, 3, 0, 1), 1060);
        due("under, HIGH is 53", x.under(0), -20);
    }

    static void p16_none_if_high_is_none() {
        says("NONE -1000004: HIGH is NONE,");
        due("not ACROSS", flat("", 4).under(0), -1000004);
        due("below 0", flat("stand 17;rise 0;", 7).under(0), -1000004);
        due("at 0", flat("stand 18;rise 0;", 7).under(0), 0);
    }

    static void p16_none_if_none_is_ever_near() {
        says("or none is ever NEAR.");
        due("near 8 at 9", flat("mark 9;run 18;near 8;", 2).under(0), -1000004);
        due("near 9 at 9", flat("mark 9;run 18;near 9;", 2).under(0), 20 * 18);
    }

    static void p16_bad_minus_1000000() {
        says("BAD -1000000;");
        for (int w : new int[] {1, -1, 6, MIN, MAX}) {
            refused("under(" + w + ")", x -> x.under(w), -1000000);
        }
        tells("under(0)", x -> x.under(0));
    }

    // ---- 17: order

    static void p17_first_across_0_or_more() {
        says("PARTS in the order in which they are first across 0 or more,");
        // in TENTH 3 the PLACE is 4 X less the sum of X
        OverABar x = flat(LIGHT, 7);
        due("all at 0 in TENTH 3", x.order(0), 27);
        x.put(0, 3, 3, 1, 0);
        due("PLACE", x.place(0, 3, 0, 0), -1);
        due("PART 3 in TENTH 3, the others at -1", x.order(0), 3 * 64 + 0 * 16 + 1 * 4 + 2);
        x.put(0, 3, 3, -1, 0);
        due("PARTS 0 to 2 at 1 in TENTH 3", x.order(0), 27);
        x.put(0, 3, 3, 0, 0);
        x.put(0, 3, 0, -1, 0);
        due("PART 0 at -3, the others at 1", x.order(0), 1 * 64 + 2 * 16 + 3 * 4 + 0);
    }

    static void p17_first_though_it_goes_back() {
        says("PARTS in the order in which they are first across 0 or more,");
        OverABar x = flat(LIGHT + "mark 16;", 7);
        // PART 2 is at 0 in TENTH 2 (-24 + 36 - 9 - 3), at -28 in TENTH 3
        x.put(0, 2, 2, 9, 0);
        x.put(0, 2, 1, 3, 0);
        due("PLACE in TENTH 2", x.place(0, 2, 2, 0), 0);
        x.put(0, 3, 2, -8, 0);
        due("PLACE in TENTH 3", x.place(0, 3, 2, 0), -4 - 32 + 8);
        // in TENTH 3 the others are at 4
        due("order", x.order(0), 2 * 64 + 0 * 16 + 1 * 4 + 3);
        x.put(0, 2, 1, 4, 0);
        due("PLACE in TENTH 2", x.place(0, 2, 2, 0), -1);
        due("order, it came in TENTH 4", x.order(0), 0 * 64 + 1 * 16 + 3 * 4 + 2);
    }

    static void p17_figures_to_the_base_4() {
        says("as figures to the base 4, the first the highest");
        // PARTS 3, 2, 1, 0 in TENTHS 1, 2, 3, 4
        OverABar x = flat(LIGHT + "mark 1;run 1;", 8);
        int[] first = {5, 4, 3, 2};
        for (int t = 1; t < 7; t++) {
            for (int p = 0; p < 4; p++) {
                x.put(0, t, p, t >= first[p] ? 9 : -9, 0);
            }
        }
        for (int t = 0; t < 8; t++) {
            for (int p = 0; p < 4; p++) {
                due("PART " + p + " is behind the bar in TENTH " + t, x.place(0, t, p, 0) >= 0 ? 1 : 0,
                    t == 7 || t >= first[p] || t == 1 || t == 6 ? 1 : 0);
            }
        }
        due("all at 0 in TENTH 1", x.order(0), 27);
        Bench.tell(x, LIGHT + "mark 2;run 1;");
        due("order 3 2 1 0, the greatest", x.order(0), 3 * 64 + 2 * 16 + 1 * 4);
        due("order 0 1 2 3, the least", flat("", 7).order(0), 0 * 64 + 1 * 16 + 2 * 4 + 3);
    }

    static void p17_of_several_in_one_tenth() {
        says("(of several in one TENTH the least number ahead).");
        OverABar x = flat("", 7);
        // PARTS 1 and 3 in TENTH 3, 0 and 2 behind them
        putX(x, 0, 3, -1, 1, -1, 1);
        due("order 1 3 0 2", x.order(0), 1 * 64 + 3 * 16 + 0 * 4 + 2);
        putX(x, 0, 3, 1, -1, 1, -1);
        due("order 0 2 1 3", x.order(0), 0 * 64 + 2 * 16 + 1 * 4 + 3);
    }

    static void p17_none() {
        says("NONE: it does not get ACROSS.");
        due("the last TENTH at 0", flat("", 4).order(0), NONE);
        due("TENTH 0 at 0", flat("mark 0;", 7).order(0), NONE);
        due("HIGH is NONE, but it gets ACROSS", flat("stand 0;rise 0;", 7).order(0), 27);
    }

    static void p17_bad() {
        says("BAD;");
        for (int w : new int[] {1, -1, 6, MIN, MAX}) {
            refused("order(" + w + ")", x -> x.order(w), BAD);
        }
        tells("order(0)", x -> x.order(0));
    }

    // ---- 18: barred

    static void p18_the_first_that_fits() {
        says("A WAY is BARRED, the first that fits:");
        OverABar x = new OverABar();
        x.way(0, 3, 2);
        x.put(0, 2, 0, 0, -9);
        x.put(0, 2, 1, 9, 0);
        String[] texts = {"", "bend 0 18;bend 1 18;", "bend 0 18;bend 1 18;quick 9;", "bend 0 18;bend 1 18;quick 9;feet 2;",
            "bend 0 18;bend 1 18;quick 9;feet 2;pit 2;"};
        int[] want = {1, 2, 3, 4, 0};
        for (int i = 0; i < texts.length; i++) {
            Bench.tell(x, texts[i]);
            due("barred with '" + texts[i] + "'", x.barred(0), want[i]);
        }
    }

    static void p18_bent_above_bend() {
        says("1 BENT too far: in some TENTH for neighbours p and p + 1 the differences of X and of Y (without signs), "
            + "summed, are above BEND p;");
        for (int p = 0; p < 3; p++) {
            for (int bend : new int[] {1, 9, 18}) {
                for (int t = 0; t < 3; t++) {
                    OverABar x = flat("bend 0 18;bend 1 18;bend 2 18;quick 18;pit 2;".replace("bend " + p + " 18",
                        "bend " + p + " " + bend), 3);
                    int half = bend / 2;
                    for (int side = -1; side <= 1; side += 2) {
                        // half of it by X, the rest by Y, of other signs
                        x.put(0, t, p, side * half, 0);
                        x.put(0, t, p + 1, 0, side * (bend - half));
                        due("BEND " + p + " of " + bend, x.barred(0), 0);
                        x.put(0, t, p, side * half, -side);
                        due("BEND " + p + " of " + bend + " and 1", x.barred(0), 1);
                    }
                }
            }
        }
    }

    static void p18_bent_at_the_most() {
        says("the differences of X and of Y (without signs), summed, are above BEND p;");
        OverABar x = flat(LITHE, 2);
        x.put(0, 0, 0, 9, 0);
        x.put(0, 0, 1, -9, 0);
        // PARTS 1 and 2 are 9 apart
        due("18 by X alone", x.barred(0), 0);
        x.put(0, 0, 1, -9, 1);
        due("19", x.barred(0), 1);
        x.put(0, 0, 0, 0, 9);
        x.put(0, 0, 1, 0, -9);
        due("18 by Y alone", x.barred(0), 0);
    }

    static void p18_bent_between_neighbours_alone() {
        says("for neighbours p and p + 1");
        OverABar x = flat("", 2);
        // 6 from each to the next; PARTS 0 and 3 are 18 apart, and no ring
        putX(x, 0, 0, -9, -3, 3, 9);
        Bench.tell(x, "bend 0 6;bend 1 6;bend 2 6;quick 18;pit 2;");
        due("barred", x.barred(0), 0);
        Bench.tell(x, "bend 0 6;bend 1 5;bend 2 6;quick 18;pit 2;");
        due("barred by BEND 1", x.barred(0), 1);
    }

    static void p18_too_quick() {
        says("2 too QUICK: from a TENTH to the next one X or Y of a PART changes by more than quick;");
        for (int quick : new int[] {1, 6, 17}) {
            for (int i = 0; i < 8; i++) {
                for (int t = 0; t < 3; t++) {
                    OverABar x = flat("bend 0 18;bend 1 18;bend 2 18;pit 2;quick " + quick + ";", 4);
                    int from = -(quick + 1) / 2;
                    for (int k = 0; k < 4; k++) {
                        number(x, k, i, k <= t ? from : from + quick);
                    }
                    due("quick of " + quick, x.barred(0), 0);
                    for (int k = t + 1; k < 4; k++) {
                        number(x, k, i, from + quick + 1);
                    }
                    due("quick of " + quick + " and 1", x.barred(0), 2);
                    for (int k = 0; k < 4; k++) {
                        number(x, k, i, k <= t ? -from : -from - quick - 1);
                    }
                    due("quick of -" + quick + " and -1", x.barred(0), 2);
                }
            }
        }
    }

    /** Puts one of the eight numbers of a TENTH of WAY 0. */
    private static void number(OverABar x, int t, int i, int v) {
        if (i % 2 == 0) {
            x.put(0, t, i / 2, v, x.at(0, t, i / 2, 1));
        } else {
            x.put(0, t, i / 2, x.at(0, t, i / 2, 0), v);
        }
    }

    static void p18_quick_18_is_never_too_quick() {
        says("changes by more than quick;");
        OverABar x = flat(LITHE, 2);
        for (int p = 0; p < 4; p++) {
            x.put(0, 0, p, -9, 9);
            x.put(0, 1, p, 9, -9);
        }
        due("quick 18", x.barred(0), 0);
        Bench.tell(x, LITHE.replace("quick 18", "quick 17"));
        due("quick 17", x.barred(0), 2);
    }

    static void p18_from_the_last_tenth_to_none() {
        says("from a TENTH to the next one");
        OverABar x = flat("", 4);
        for (int t = 0; t < 4; t++) {
            for (int p = 0; p < 4; p++) {
                x.put(0, t, p, 6 * t - 9, 0);
            }
        }
        due("from the last TENTH to the first it would be 18", x.barred(0), 0);
    }

    static void p18_feet_more_than_feet() {
        says("3 FEET: more than feet;");
        for (int feet = 1; feet <= 2; feet++) {
            for (int rule = 1; rule <= 2; rule++) {
                OverABar x = told("feet " + rule + ";");
                x.way(0, 7, feet);
                due("FEET " + feet + " with feet " + rule, x.barred(0), feet > rule ? 3 : 0);
            }
        }
    }

    static void p18_pit() {
        says("4 PIT: in the last TENTH the PART that is lowest (of several the greatest number) is not one that the pit "
            + "bears (0: PART 3; 1: 2 and 3; 2: all).");
        for (int pit = 0; pit <= 2; pit++) {
            for (int low = 0; low < 16; low++) {
                OverABar x = flat("pit " + pit + ";", 2);
                int lowest = 3;
                for (int p = 0; p < 4; p++) {
                    // bits of low: the PARTS that hang 1 lower than the others
                    x.put(0, 1, p, 0, (low >> p & 1) == 0 ? 3 : 2);
                    if ((low >> p & 1) != 0) {
                        lowest = p;
                    }
                }
                // what is lowest in another TENTH does no harm
                x.put(0, 0, 0, 0, -3);
                boolean bears = pit == 2 || lowest == 3 || pit == 1 && lowest == 2;
                due("pit " + pit + ", lowest PART " + lowest + " of " + low, x.barred(0), bears ? 0 : 4);
            }
        }
    }

    static void p18_why_or_0() {
        says("Why a WAY is BARRED: 1 to 4; 0: it is not.");
        due("a WAY of noughts", flat("", 2).barred(0), 0);
        due("not ACROSS, but not BARRED", flat("", 4).barred(0), 0);
        tells("barred(0)", x -> x.barred(0));
    }

    static void p18_bad() {
        says("BAD.");
        for (int w : new int[] {1, -1, 6, MIN, MAX}) {
            refused("barred(" + w + ")", x -> x.barred(w), BAD);
        }
    }

    // ---- 19: pits

    static void p19_bits_1_2_4() {
        says("Pits (bits: 1, 2, 4) that bear a WAY.");
        int[] want = {4, 4, 6, 7};
        for (int pit = 0; pit <= 2; pit++) {
            for (int p = 0; p < 4; p++) {
                OverABar x = flat("pit " + pit + ";", 2);
                x.put(0, 1, p, 0, -1);
                x.put(0, 0, (p + 1) % 4, 0, -9);
                due("PART " + p + " is lowest, pit " + pit, x.pits(0), want[p]);
            }
        }
    }

    static void p19_of_several_the_greatest_number() {
        says("the PART that is lowest (of several the greatest number)");
        OverABar x = flat("", 2);
        due("all PARTS", x.pits(0), 7);
        putY(x, 0, 1, 0, 0, 0, 1);
        due("PARTS 0 to 2", x.pits(0), 6);
        putY(x, 0, 1, 0, 0, 1, 1);
        due("PARTS 0 and 1", x.pits(0), 4);
        putY(x, 0, 1, 0, 1, 0, 1);
        due("PARTS 0 and 2", x.pits(0), 6);
        putY(x, 0, 1, 0, 1, 1, 0);
        due("PARTS 0 and 3", x.pits(0), 7);
    }

    static void p19_though_it_is_barred() {
        says("Pits (bits: 1, 2, 4) that bear a WAY.");
        OverABar x = new OverABar();
        x.way(0, 2, 2);
        x.put(0, 0, 0, 9, 9);
        due("barred", x.barred(0), 1);
        due("pits", x.pits(0), 7);
    }

    static void p19_bad() {
        says("BAD.");
        for (int w : new int[] {1, -1, 6, MIN, MAX}) {
            refused("pits(" + w + ")", x -> x.pits(w), BAD);
        }
        tells("pits(0)", x -> x.pits(0));
    }
}
