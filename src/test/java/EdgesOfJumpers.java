/** Edges of promises 27 to 35: crossing, jumpers, odds. */
final class EdgesOfJumpers extends Edges {

    // ---- 27: pays

    private static void duePays(int a, int b, int g, int c, int want) {
        due("pays(" + a + ", " + b + ", " + g + ", " + c + ")", new OverABar().pays(a, b, g, c), want);
    }

    static void p27_bounds() {
        says("CROSSING (a, b, c 0 to 999, g 0 to 99):");
        duePays(0, 0, 0, 0, NONE);
        duePays(999, 999, 99, 999, NONE);
        duePays(0, 999, 99, 999, 1);
        duePays(0, 1, 0, 1, 1);
        int[] most = {999, 999, 99, 999};
        for (int i = 0; i < 4; i++) {
            for (int v : new int[] {-1, most[i] + 1, MIN, MAX}) {
                int[] a = {1, 2, 3, 4};
                a[i] = v;
                duePays(a[0], a[1], a[2], a[3], BAD);
            }
        }
    }

    static void p27_begins_with_b_and_has_g_more() {
        says("CROSSING: who jumps a each year would begin by another way with b, and have g more each year,");
        says("the fewest years in which it PAYS.");
        duePays(50, 51, 0, 99, 1);
        duePays(50, 50, 1, 99, 2);
        // 49, 50, 51, 52: 202
        duePays(50, 49, 1, 99, 4);
        // 40, 43, 46, 49, 52, 55, 58, 61: 404
        duePays(50, 40, 3, 70, 8);
        duePays(0, 0, 99, 999, 2);
    }

    static void p27_c_at_most() {
        says("c at most:");
        // 22 behind in the fourth year, then 2, and 5 each year
        duePays(50, 40, 3, 55, 10);
        duePays(50, 40, 3, 50, NONE);
        // the first year, too
        duePays(50, 60, 9, 51, 1);
        duePays(50, 60, 9, 50, NONE);
        duePays(50, 60, 9, 49, NONE);
    }

    static void p27_more_summed() {
        says("it PAYS in y years, if that is more, summed, than a each year.");
        // 49, 50, 51: as much as 50 each year; then more
        duePays(50, 49, 1, 51, 4);
        duePays(50, 50, 0, 99, NONE);
        duePays(50, 49, 1, 50, NONE);
    }

    static void p27_none_not_in_50() {
        says("NONE: not in 50.");
        // 48 behind, then 1 more each year: even in the 49th
        duePays(100, 52, 49, 101, 50);
        // even in the 50th
        duePays(100, 51, 50, 101, NONE);
        duePays(50, 49, 0, 999, NONE);
    }

    static void p27_bad_changes_nothing() {
        says("BAD;");
        int[][] wrong = {{-1, 0, 0, 0}, {0, 1000, 0, 0}, {0, 0, 100, 0}, {0, 0, 0, -1}};
        for (int[] a : wrong) {
            refused("pays", x -> x.pays(a[0], a[1], a[2], a[3]), BAD);
        }
        tells("pays(50, 40, 3, 70)", x -> x.pays(50, 40, 3, 70));
    }

    // ---- 28: jumper

    static void p28_a_jumper_more() {
        says("A JUMPER more, with a WAY (there need be none): how many.");
        says("JUMPERS (12) in a ring, each with a WAY (0 to 5) of its own.");
        OverABar x = new OverABar();
        for (int j = 0; j < 12; j++) {
            due("jumper " + j, x.jumper(j % 6), j + 1);
        }
        dueRow("WAY of JUMPER", held(x), 0, 1, 2, 3, 4, 5, 0, 1, 2, 3, 4, 5);
    }

    private static OverABar fullCrowd() {
        OverABar x = crowd();
        for (int j = 5; j < 12; j++) {
            x.jumper(j % 6);
        }
        return x;
    }

    static void p28_full() {
        says("FULL.");
        OverABar x = fullCrowd();
        due("count(2)", x.count(2), 12);
        for (int w = 0; w < 6; w++) {
            int way = w;
            refused(EdgesOfJumpers::fullCrowd, "jumper(" + w + ")", y -> y.jumper(way), FULL);
        }
    }

    static void p28_bad() {
        says("BAD;");
        for (int w : NO_WAY_NUMBERS) {
            refused("jumper(" + w + ")", x -> x.jumper(w), BAD);
        }
    }

    static void p28_bad_ahead_of_full() {
        says("the first that fits;");
        for (int w : NO_WAY_NUMBERS) {
            refused(EdgesOfJumpers::fullCrowd, "jumper(" + w + ")", x -> x.jumper(w), BAD);
        }
    }

    // ---- 29: takes

    static void p29_what_it_was() {
        says("The WAY of a JUMPER becomes w: what it was.");
        OverABar x = new OverABar();
        for (int j = 0; j < 12; j++) {
            x.jumper(0);
        }
        due("takes(0, 5)", x.takes(0, 5), 0);
        due("takes(11, 4)", x.takes(11, 4), 0);
        due("takes(0, 0)", x.takes(0, 0), 5);
        due("takes(11, 4), the same", x.takes(11, 4), 4);
        dueRow("WAY of JUMPER", held(x), 0, 0, 0, 0, 0, 0, 0, 0, 0, 0, 0, 4);
    }

    static void p29_bad_changes_nothing() {
        says("BAD.");
        says("what is refused changes nothing");
        due("takes(0, 0) of no JUMPERS", new OverABar().takes(0, 0), BAD);
        // there are 5 JUMPERS
        for (int j : new int[] {-1, 5, 12, MIN, MAX}) {
            refused("takes(" + j + ", 0)", x -> x.takes(j, 0), BAD);
        }
        for (int w : NO_WAY_NUMBERS) {
            refused("takes(4, " + w + ")", x -> x.takes(4, w), BAD);
        }
        due("takes(12, 0) of twelve", fullCrowd().takes(12, 0), BAD);
    }

    // ---- 30: years

    /** WORTH: WAY 0 52, WAYS 1 and 2 53, WAY 3 54, WAY 4 -1 (BARRED); WAY 5 is none: -1. */
    private static OverABar ring(String text, int... held) {
        OverABar x = told("bend 2 18;quick 18;" + text);
        x.way(0, 7, 1);
        x.way(1, 7, 1);
        x.put(1, 3, 3, 4, -4);
        x.copy(1, 2);
        x.copy(1, 3);
        x.put(3, 3, 3, 4, -8);
        x.way(4, 7, 2);
        for (int w : held) {
            x.jumper(w);
        }
        return x;
    }

    /** Twelve JUMPERS of WAY 0, but for one of WAY w. */
    private static OverABar twelve(String text, int j, int w) {
        OverABar x = ring(text, 0, 0, 0, 0, 0, 0, 0, 0, 0, 0, 0, 0);
        x.takes(j, w);
        return x;
    }

    static void p30_what_the_ways_are_worth() {
        says("that of the greatest WORTH,");
        OverABar x = ring("");
        int[] want = {52, 53, 53, 54, -1, -1000};
        for (int w = 0; w < 6; w++) {
            due("worth(" + w + ", -1)", x.worth(w, -1), want[w]);
        }
        x = ring("seen 5;", 0, 1, 2, 3, 4, 5);
        due("years(1)", x.years(1), 1 + 2 + 4 + 16 + 32);
        dueRow("WAY of JUMPER", held(x), 3, 3, 3, 3, 3, 3);
    }

    static void p30_years_1_to_20() {
        says("YEARS (1 to 20) go:");
        for (int n = 1; n <= 20; n++) {
            OverABar x = twelve("", 0, 1);
            x.years(n);
            due("who(1) behind " + n + " YEARS", x.who(1), Math.min(12, 1 + 2 * n));
        }
    }

    static void p30_bits_of_those_that_are_others_then() {
        says("JUMPERS whose WAY is another one then (bits).");
        OverABar x = twelve("", 10, 1);
        due("years(1)", x.years(1), 1 << 9 | 1 << 11);
        due("years(1)", x.years(1), 1 << 8 | 1);
        due("years(2)", x.years(2), 1 << 7 | 1 << 1 | 1 << 6 | 1 << 2);
        due("years(20)", x.years(20), 1 << 5 | 1 << 4 | 1 << 3);
        due("years(20)", x.years(20), 0);
        due("years(20) of all at once", twelve("", 4, 1).years(20), 4095 - 16);
    }

    static void p30_all_at_once() {
        says("In a YEAR each takes, all at once,");
        OverABar x = ring("", 0, 1, 0, 0, 0, 0);
        due("years(1)", x.years(1), 1 + 4);
        dueRow("WAY of JUMPER", held(x), 1, 1, 1, 0, 0, 0);
        // JUMPER 1 takes what JUMPER 2 had, which takes another one
        x = ring("", 0, 0, 1, 3, 0);
        x.years(1);
        dueRow("WAY of JUMPER", held(x), 0, 1, 3, 3, 3);
    }

    static void p30_round_the_ring() {
        says("JUMPERS (12) in a ring,");
        due("years(1), JUMPER 0 odd", ring("", 1, 0, 0, 0, 0).years(1), 2 + 16);
        due("years(1), the last one odd", ring("", 0, 0, 0, 0, 1).years(1), 1 + 8);
        due("years(1), JUMPER 0 of twelve odd", twelve("", 0, 1).years(1), 2 + 2048);
        due("years(1), JUMPER 11 of twelve odd", twelve("", 11, 1).years(1), 1 + 1024);
        due("years(1) of two", ring("", 0, 1).years(1), 1);
    }

    static void p30_up_to_seen_places_either_side() {
        says("of WAYS of itself and of those up to seen places beside it, either side,");
        for (int seen = 1; seen <= 5; seen++) {
            for (int j = 0; j < 12; j++) {
                int want = 0;
                for (int far = 1; far <= seen; far++) {
                    want |= 1 << (j + far) % 12 | 1 << (j + 12 - far) % 12;
                }
                due("years(1), seen " + seen, twelve("seen " + seen + ";", j, 1).years(1), want);
            }
        }
    }

    static void p30_seen_more_than_the_ring() {
        says("those up to seen places beside it,");
        due("three, seen 5", ring("seen 5;", 0, 1, 0).years(1), 1 + 4);
        due("two, seen 5", ring("seen 5;", 0, 1).years(1), 1);
        due("one, seen 5", ring("seen 5;", 0).years(1), 0);
        due("one, seen 1", ring("", 5).years(20), 0);
        // eleven: 5 either side are all; twelve: the one across is not seen
        due("eleven, seen 5", ring("seen 5;", 1, 0, 0, 0, 0, 0, 0, 0, 0, 0, 0).years(1), 2047 - 1);
        due("twelve, seen 5", twelve("seen 5;", 0, 1).years(1), 4095 - 1 - (1 << 6));
    }

    static void p30_no_jumpers() {
        says("YEARS (1 to 20) go: JUMPERS whose WAY is another one then (bits).");
        due("years(1)", ring("").years(1), 0);
        due("years(20)", ring("").years(20), 0);
    }

    static void p30_its_own_counting_habit_more() {
        says("its own counting habit more");
        // 52 beside 53 and 54
        due("habit 0", ring("", 0, 1).years(1), 1);
        due("habit 1 beside 53", ring("habit 1;", 0, 1).years(1), 0);
        due("habit 1 beside 54", ring("habit 1;", 0, 3).years(1), 1);
        due("habit 2 beside 54", ring("habit 2;", 0, 3).years(1), 0);
        // habit is of its own WAY alone: 53 of another one stays below 54
        OverABar x = ring("habit 1;", 0, 1, 0, 3);
        due("years(1)", x.years(1), 1 + 4);
        dueRow("WAY of JUMPER", held(x), 3, 1, 3, 3);
    }

    static void p30_habit_of_a_way_that_is_none() {
        says("its own counting habit more");
        // -1 and 20 beside 19, then beside 20: stand and 3 times 3, less 18
        due("beside 19", ring("habit 20;stand 28;rise 3;", 5, 0).years(1), 0);
        due("beside 20", ring("habit 20;stand 29;rise 3;", 5, 0).years(1), 1);
        due("BARRED beside 19", ring("habit 20;stand 28;rise 3;", 4, 0).years(1), 0);
        due("BARRED beside 20", ring("habit 20;stand 29;rise 3;", 4, 0).years(1), 1);
    }

    static void p30_of_several_its_own_then_the_least() {
        says("(of several its own, then the least number).");
        OverABar x = ring("", 2, 0, 1);
        due("years(1)", x.years(1), 2);
        dueRow("WAY of JUMPER", held(x), 2, 1, 1);
        x = ring("", 1, 0, 2);
        due("years(1)", x.years(1), 2);
        dueRow("WAY of JUMPER", held(x), 1, 1, 2);
        due("WORTH -1 of all", ring("", 5, 4, 5, 4).years(20), 0);
    }

    static void p30_bad_changes_nothing() {
        says("BAD.");
        says("what is refused changes nothing");
        for (int n : new int[] {0, 21, -1, MIN, MAX}) {
            refused("years(" + n + ")", x -> x.years(n), BAD);
            OverABar x = twelve("", 0, 1);
            due("years(" + n + ")", x.years(n), BAD);
            due("who(1)", x.who(1), 1);
        }
        due("years(0) of no JUMPERS", new OverABar().years(0), BAD);
    }

    // ---- 31: who

    static void p31_how_many_have_a_way() {
        says("How many JUMPERS have a WAY.");
        OverABar x = new OverABar();
        for (int w = 0; w < 6; w++) {
            due("who(" + w + ") of none", x.who(w), 0);
        }
        for (int j = 1; j <= 12; j++) {
            x.jumper(5);
            due("who(5)", x.who(5), j);
        }
        due("who(0)", x.who(0), 0);
        x.takes(0, 0);
        due("who(0)", x.who(0), 1);
        due("who(5)", x.who(5), 11);
        tells("who(3)", y -> y.who(3));
    }

    static void p31_bad() {
        says("BAD.");
        for (int w : NO_WAY_NUMBERS) {
            refused("who(" + w + ")", x -> x.who(w), BAD);
        }
    }

    // ---- 32: all

    static void p32_the_fewest_years() {
        says("The fewest YEARS till all have one WAY");
        for (int n = 2; n <= 12; n++) {
            OverABar x = ring("");
            x.jumper(1);
            for (int j = 1; j < n; j++) {
                x.jumper(0);
            }
            due("all() of " + n, x.all(), n / 2);
        }
        for (int seen = 1; seen <= 5; seen++) {
            due("all(), seen " + seen, twelve("seen " + seen + ";", 7, 1).all(), (6 + seen - 1) / seen);
        }
        due("a WAY that none had more than once", ring("", 0, 1, 0, 3, 0).all(), 2);
    }

    static void p32_0_they_do() {
        says("(0: they do;");
        due("one", ring("", 5).all(), 0);
        due("three of a WAY that is none", ring("", 5, 5, 5).all(), 0);
        due("twelve", twelve("", 0, 0).all(), 0);
    }

    static void p32_jumpers_stay() {
        says("JUMPERS stay as they are).");
        OverABar x = twelve("", 3, 1);
        due("all()", x.all(), 6);
        due("all() again", x.all(), 6);
        due("who(1)", x.who(1), 1);
        tells("all()", y -> y.all());
    }

    static void p32_none_not_in_40() {
        says("NONE: not in 40;");
        due("two that are as great", ring("", 1, 2).all(), NONE);
        due("habit", ring("habit 1;", 0, 1).all(), NONE);
        due("WORTH -1", ring("", 4, 5).all(), NONE);
        due("one of twelve keeps its own", twelve("habit 2;", 6, 3).all(), NONE);
        OverABar x = ring("", 1, 2, 1);
        x.all();
        dueRow("WAY of JUMPER", held(x), 1, 2, 1);
    }

    static void p32_state_there_are_none() {
        says("STATE: there are none.");
        due("all() of no JUMPERS", ring("").all(), STATE);
        due("all() of a new object", new OverABar().all(), STATE);
    }

    // ---- 33: odd

    static void p33_if_one_alone_had_it() {
        says("What one odd one does: if JUMPER j alone had WAY w: how many would have it behind n YEARS");
        for (int j = 0; j < 12; j++) {
            OverABar x = twelve("", 0, 0);
            due("odd(" + j + ", 1, 3)", x.odd(j, 1, 3), 7);
            due("odd(" + j + ", 5, 0)", x.odd(j, 5, 0), 1);
            due("odd(" + j + ", 5, 1)", x.odd(j, 5, 1), 0);
            due("odd(" + j + ", 0, 1)", x.odd(j, 0, 1), 12);
        }
    }

    static void p33_others_as_they_are() {
        says("if JUMPER j alone had WAY w:");
        OverABar x = twelve("", 5, 1);
        due("odd(0, 1, 0)", x.odd(0, 1, 0), 2);
        due("odd(0, 1, 1)", x.odd(0, 1, 1), 6);
        due("odd(5, 0, 0), none has WAY 1 then", x.odd(5, 0, 0), 12);
        due("odd(5, 0, 20)", x.odd(5, 0, 20), 12);
        due("odd(5, 1, 0), what it has", x.odd(5, 1, 0), 1);
    }

    static void p33_years_0_to_20() {
        says("behind n YEARS (0 to 20;");
        OverABar x = twelve("", 0, 0);
        for (int n = 0; n <= 20; n++) {
            due("odd(4, 1, " + n + ")", x.odd(4, 1, n), Math.min(12, 1 + 2 * n));
        }
        for (int n : new int[] {-1, 21, MIN, MAX}) {
            due("odd(4, 1, " + n + ")", x.odd(4, 1, n), BAD);
        }
    }

    static void p33_jumpers_stay() {
        says("JUMPERS stay as they are).");
        tells("odd(0, 1, 0)", x -> x.odd(0, 1, 0));
        tells("odd(4, 3, 20)", x -> x.odd(4, 3, 20));
        OverABar x = twelve("", 0, 0);
        x.odd(4, 1, 20);
        due("who(0)", x.who(0), 12);
    }

    static void p33_bad() {
        says("BAD.");
        for (int j : new int[] {-1, 5, 12, MIN, MAX}) {
            refused("odd(" + j + ", 0, 0)", x -> x.odd(j, 0, 0), BAD);
        }
        for (int w : NO_WAY_NUMBERS) {
            refused("odd(0, " + w + ", 0)", x -> x.odd(0, w, 0), BAD);
        }
        for (int n : new int[] {-1, 21, MIN, MAX}) {
            refused("odd(0, 0, " + n + ")", x -> x.odd(0, 0, n), BAD);
        }
        due("odd(0, 0, 0) of no JUMPERS", new OverABar().odd(0, 0, 0), BAD);
    }

    // ---- 34: odds

    /** What the odds are: by going through all e of each try. */
    private static int[] reckoned(int high, int bar, int d, int tries) {
        int good = 0;
        int all = 0;
        for (int e = 0; e <= d; e++) {
            for (int f = 0; f <= (tries == 3 ? d : 0); f++) {
                for (int g = 0; g <= (tries == 3 ? d : 0); g++) {
                    all++;
                    boolean second = tries == 3 && (high - f >= bar || high - g >= bar);
                    good += high - e >= bar || second ? 1 : 0;
                }
            }
        }
        for (int by = all; by > 1; by--) {
            if (all % by == 0 && good % by == 0) {
                return new int[] {good / by, all / by};
            }
        }
        return new int[] {good, all};
    }

    private static void dueOdds(OverABar x, int bar, int d, int tries, int above, int below) {
        String call = "odds(0, " + bar + ", " + d + ", " + tries + ", ";
        due(call + "0)", x.odds(0, bar, d, tries, 0), above);
        due(call + "1)", x.odds(0, bar, d, tries, 1), below);
    }

    static void p34_e_from_0_to_d() {
        says("SURE: who jumps by a WAY has HIGH less e, e being 0 to d, each as likely.");
        says("ODDS at a bar: how many e are so that it is the bar or more, by d and 1;");
        OverABar x = flat("", 7);
        dueOdds(x, 52, 0, 1, 1, 1);
        dueOdds(x, 53, 0, 1, 0, 1);
        dueOdds(x, 51, 0, 1, 1, 1);
        dueOdds(x, 52, 20, 1, 1, 21);
        dueOdds(x, 53, 20, 1, 0, 1);
        dueOdds(x, 32, 20, 1, 1, 1);
        dueOdds(x, 33, 20, 1, 20, 21);
    }

    static void p34_each_bar_and_d() {
        says("ODDS by a WAY at a bar (0 to 999), d 0 to 20, in one try (tries 1), in three (3): 0 the numerator, 1 the denominator.");
        for (int d = 0; d <= 20; d++) {
            OverABar x = flat("", 7);
            for (int bar = 52 - d - 1; bar <= 53; bar++) {
                for (int tries = 1; tries <= 3; tries += 2) {
                    int[] want = reckoned(52, bar, d, tries);
                    dueOdds(x, bar, d, tries, want[0], want[1]);
                }
            }
        }
    }

    static void p34_in_three_tries_one_at_least() {
        says("in three tries: one at least.");
        OverABar x = flat("", 7);
        dueOdds(x, 52, 1, 3, 7, 8);
        dueOdds(x, 52, 20, 3, 9261 - 8000, 9261);
        dueOdds(x, 53, 20, 3, 0, 1);
        dueOdds(x, 32, 20, 3, 1, 1);
        dueOdds(x, 52, 0, 3, 1, 1);
    }

    static void p34_in_lowest_terms() {
        says("Fractions are in lowest terms, the denominator above 0.");
        OverABar x = flat("", 7);
        // 2 of 4; 64 - 8 of 64; 9261 - 729 of 9261
        dueOdds(x, 51, 3, 1, 1, 2);
        dueOdds(x, 51, 3, 3, 7, 8);
        dueOdds(x, 41, 20, 3, 316, 343);
        dueOdds(x, 999, 20, 1, 0, 1);
        dueOdds(x, 999, 20, 3, 0, 1);
        dueOdds(x, 0, 20, 3, 1, 1);
    }

    static void p34_bar_0_to_999() {
        says("at a bar (0 to 999),");
        // HIGH is 2: e of 0 to 2 are good at 0
        OverABar x = flat("stand 20;rise 0;", 7);
        dueOdds(x, 0, 20, 1, 1, 7);
        dueOdds(x, 0, 2, 1, 1, 1);
        dueOdds(x, 0, 3, 1, 3, 4);
        // HIGH is 999
        x = flat("mark 9;run 18;", 2);
        dueOdds(x, 999, 0, 1, 1, 1);
        dueOdds(x, 999, 20, 1, 1, 21);
        dueOdds(x, 998, 20, 1, 2, 21);
        for (int bar : new int[] {-1, 1000, MIN, MAX}) {
            due("odds(0, " + bar + ", 0, 1, 0)", x.odds(0, bar, 0, 1, 0), BAD);
        }
    }

    static void p34_d_0_to_20() {
        says("d 0 to 20,");
        OverABar x = flat("", 7);
        due("odds(0, 52, 0, 1, 1)", x.odds(0, 52, 0, 1, 1), 1);
        due("odds(0, 52, 20, 1, 1)", x.odds(0, 52, 20, 1, 1), 21);
        for (int d : new int[] {-1, 21, MIN, MAX}) {
            due("odds(0, 52, " + d + ", 1, 1)", x.odds(0, 52, d, 1, 1), BAD);
        }
    }

    static void p34_tries_1_or_3() {
        says("in one try (tries 1), in three (3):");
        OverABar x = flat("", 7);
        for (int tries : new int[] {0, 2, 4, -1, -3, MIN, MAX}) {
            due("odds(0, 52, 1, " + tries + ", 0)", x.odds(0, 52, 1, tries, 0), BAD);
        }
    }

    static void p34_high_counts_though_it_is_barred() {
        says("SURE: who jumps by a WAY has HIGH less e,");
        OverABar x = new OverABar();
        x.way(0, 7, 2);
        due("barred(0)", x.barred(0), 3);
        dueOdds(x, 52, 4, 1, 1, 5);
        due("asks(0, 0, 1, 2)", x.asks(0, 0, 1, 2), 52);
    }

    static void p34_state() {
        says("STATE: HIGH is NONE.");
        due("not ACROSS", flat("", 4).odds(0, 0, 0, 1, 0), STATE);
        due("below 0", flat("stand 17;rise 0;", 7).odds(0, 0, 0, 1, 0), STATE);
        due("at 0", flat("stand 18;rise 0;", 7).odds(0, 0, 0, 1, 0), 1);
        refused("odds(3, 0, 0, 1, 0)", x -> x.odds(3, 0, 0, 1, 0), STATE);
    }

    static void p34_bad() {
        says("BAD: also no WAY;");
        int[][] wrong = {{1, 0, 0, 1, 0}, {-1, 0, 0, 1, 0}, {6, 0, 0, 1, 0}, {MIN, 0, 0, 1, 0}, {MAX, 0, 0, 1, 0},
            {0, -1, 0, 1, 0}, {0, 1000, 0, 1, 0}, {0, 0, -1, 1, 0}, {0, 0, 21, 1, 0}, {0, 0, 0, 0, 0}, {0, 0, 0, 2, 0},
            {0, 0, 0, 4, 0}, {0, 0, 0, 1, -1}, {0, 0, 0, 1, 2}, {0, 0, 0, 3, MAX}};
        for (int[] a : wrong) {
            refused("odds", x -> x.odds(a[0], a[1], a[2], a[3], a[4]), BAD);
        }
        tells("odds(0, 9, 9, 3, 0)", x -> x.odds(0, 9, 9, 3, 0));
    }

    static void p34_bad_ahead_of_state() {
        says("the first that fits;");
        refused("odds(3, 1000, 0, 1, 0)", x -> x.odds(3, 1000, 0, 1, 0), BAD);
        refused("odds(3, 0, 21, 1, 0)", x -> x.odds(3, 0, 21, 1, 0), BAD);
        refused("odds(3, 0, 0, 2, 0)", x -> x.odds(3, 0, 0, 2, 0), BAD);
        refused("odds(3, 0, 0, 1, 2)", x -> x.odds(3, 0, 0, 1, 2), BAD);
    }

    // ---- 35: asks

    static void p35_a_by_b_at_least() {
        says("The greatest bar at which ODDS in three tries are a by b at least");
        OverABar x = flat("", 7);
        // at 52: 7 by 8
        due("asks(0, 1, 7, 8)", x.asks(0, 1, 7, 8), 52);
        due("asks(0, 1, 8, 9)", x.asks(0, 1, 8, 9), 51);
        due("asks(0, 1, 87, 99)", x.asks(0, 1, 87, 99), 51);
        due("asks(0, 1, 86, 99)", x.asks(0, 1, 86, 99), 52);
        due("asks(0, 0, 98, 99)", x.asks(0, 0, 98, 99), 52);
    }

    static void p35_each_d() {
        says("The greatest bar at which ODDS in three tries are a by b at least");
        int[][] shares = {{1, 99}, {1, 8}, {1, 2}, {7, 8}, {26, 27}, {98, 99}};
        for (int d = 0; d <= 20; d++) {
            OverABar x = flat("", 7);
            for (int[] share : shares) {
                int bar = 53;
                int[] odds = reckoned(52, bar, d, 3);
                while (odds[0] * share[1] < share[0] * odds[1]) {
                    bar--;
                    odds = reckoned(52, bar, d, 3);
                }
                due("asks(0, " + d + ", " + share[0] + ", " + share[1] + ")", x.asks(0, d, share[0], share[1]), bar);
            }
        }
    }

    static void p35_1_to_99_a_below_b() {
        says("(1 to 99 each, a below b).");
        OverABar x = flat("", 7);
        due("asks(0, 0, 1, 2)", x.asks(0, 0, 1, 2), 52);
        due("asks(0, 0, 1, 99)", x.asks(0, 0, 1, 99), 52);
        due("asks(0, 0, 98, 99)", x.asks(0, 0, 98, 99), 52);
        int[][] wrong = {{0, 1}, {0, 2}, {-1, 2}, {1, 1}, {2, 1}, {99, 99}, {1, 100}, {99, 100}, {1, 0}, {-2, -1}, {MIN, 2},
            {1, MAX}};
        for (int[] a : wrong) {
            due("asks(0, 0, " + a[0] + ", " + a[1] + ")", x.asks(0, 0, a[0], a[1]), BAD);
        }
    }

    static void p35_bars_0_and_999() {
        says("The greatest bar at which");
        OverABar x = flat("mark 9;run 18;", 2);
        due("HIGH is 999", x.asks(0, 0, 1, 2), 999);
        due("HIGH is 999, d 20", x.asks(0, 20, 1, 9), 999);
        x = flat("stand 18;rise 0;", 7);
        due("HIGH is 0", x.asks(0, 0, 1, 2), 0);
    }

    static void p35_none() {
        says("NONE: none.");
        // HIGH is 2: at 0 it is 9261 - 18 * 18 * 18 of 9261
        OverABar x = flat("stand 20;rise 0;", 7);
        due("asks(0, 20, 36, 99)", x.asks(0, 20, 36, 99), 0);
        due("asks(0, 20, 37, 99)", x.asks(0, 20, 37, 99), NONE);
        due("asks(0, 2, 98, 99)", x.asks(0, 2, 98, 99), 0);
        due("asks(0, 20, 98, 99)", x.asks(0, 20, 98, 99), NONE);
    }

    static void p35_state_likewise() {
        says("STATE likewise;");
        due("not ACROSS", flat("", 4).asks(0, 0, 1, 2), STATE);
        due("below 0", flat("stand 17;rise 0;", 7).asks(0, 0, 1, 2), STATE);
        refused("asks(3, 0, 1, 2)", x -> x.asks(3, 0, 1, 2), STATE);
    }

    static void p35_bad() {
        says("BAD;");
        int[][] wrong = {{1, 0, 1, 2}, {-1, 0, 1, 2}, {6, 0, 1, 2}, {MIN, 0, 1, 2}, {MAX, 0, 1, 2}, {0, -1, 1, 2},
            {0, 21, 1, 2}, {0, MAX, 1, 2}, {0, 0, 0, 2}, {0, 0, 2, 2}, {0, 0, 1, 100}};
        for (int[] a : wrong) {
            refused("asks", x -> x.asks(a[0], a[1], a[2], a[3]), BAD);
        }
        tells("asks(0, 9, 1, 9)", x -> x.asks(0, 9, 1, 9));
    }

    static void p35_bad_ahead_of_state() {
        says("the first that fits;");
        refused("asks(3, 21, 1, 2)", x -> x.asks(3, 21, 1, 2), BAD);
        refused("asks(3, 0, 2, 2)", x -> x.asks(3, 0, 2, 2), BAD);
    }
}
