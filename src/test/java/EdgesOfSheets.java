/** Edges of promises 36 to 40: sheets and count. */
final class EdgesOfSheets extends Edges {
    private static final int[] NO_SHEETS = {-1, 4, MIN, MAX};

    /** A new object whose SHEET 0 has n CELLS of a lane, each as cell() tells. */
    private static OverABar sheeted(int lane, int n) {
        OverABar x = new OverABar();
        x.sheet(0, lane, n);
        for (int i = 0; i < n; i++) {
            x.lay(0, i, cell(i));
        }
        return x;
    }

    private static int cell(int i) {
        return i % 19 - 9;
    }

    // ---- 36: sheet

    static void p36_sheets_0_to_3() {
        says("SHEETS 0 to 3 are rows");
        OverABar x = new OverABar();
        for (int k = 0; k <= 3; k++) {
            due("sheet(" + k + ", 0, 1)", x.sheet(k, BYTES, 1), 1);
            due("lay(" + k + ", 0, 0)", x.lay(k, 0, 0), 1);
        }
        for (int k : NO_SHEETS) {
            refused("sheet(" + k + ", 0, 1)", y -> y.sheet(k, BYTES, 1), BAD);
        }
    }

    static void p36_lanes_0_to_2() {
        says("of BYTES (lane 0), SHORTS (1), INTS (2)");
        for (int lane = 0; lane <= 2; lane++) {
            OverABar x = new OverABar();
            due("sheet(0, " + lane + ", 16)", x.sheet(0, lane, 16), 1);
            for (int as = 0; as <= 2; as++) {
                due("film as of lane " + as, x.film(0, 0, as, 0, 2, 1), as == lane ? 2 : 0);
                due("torn()", x.torn(), as == lane ? 0 : CAST);
            }
        }
        for (int lane : new int[] {-1, 3, MIN, MAX}) {
            refused("sheet(0, " + lane + ", 1)", x -> x.sheet(0, lane, 1), BAD);
        }
    }

    static void p36_0_to_64_cells() {
        says("with 0 to 64 CELLS,");
        for (int n = 0; n <= 64; n++) {
            OverABar x = new OverABar();
            due("sheet(0, 2, " + n + ")", x.sheet(0, INTS, n), 1);
            due("count(5)", x.count(5), n);
            due("lay in the last CELL", x.lay(0, n - 1, 1), n == 0 ? -10 - INDEX : 1);
            due("lay behind it", x.lay(0, n, 1), -10 - INDEX);
        }
    }

    static void p36_or_nothing_at_first() {
        says("or nothing (at first).");
        OverABar x = new OverABar();
        due("count(5), nothing", x.count(5), NONE);
        due("lay(0, 0, 0), nothing", x.lay(0, 0, 0), -10 - NULL);
        x.sheet(0, BYTES, 0);
        due("count(5), no CELLS", x.count(5), 0);
        due("lay(0, 0, 0), no CELLS", x.lay(0, 0, 0), -10 - INDEX);
        due("lay(1, 0, 0), nothing", x.lay(1, 0, 0), -10 - NULL);
    }

    static void p36_a_new_row_of_0() {
        says("A SHEET is a new row of CELLS 0: 1.");
        for (int lane = 0; lane <= 2; lane++) {
            OverABar x = sheeted(BYTES, 64);
            // fewer, then more: what was there does not come again
            due("sheet of 16", x.sheet(0, lane, 16), 1);
            due("sheet of 64", x.sheet(0, lane, 64), 1);
            due("film", x.film(0, 0, lane, 0, 8, 1), 8);
            for (int i = 0; i < 64; i++) {
                due("CELL " + i, x.at(0, i / 8, i % 8 / 2, i % 2), 0);
            }
            due("torn()", x.torn(), 0);
        }
    }

    static void p36_of_one_sheet_alone() {
        says("A SHEET is a new row of CELLS 0: 1.");
        OverABar x = sheeted(BYTES, 16);
        x.sheet(1, INTS, 20);
        x.lay(1, 0, 9);
        due("count(5)", x.count(5), 16);
        due("film", x.film(0, 0, BYTES, 0, 2, 1), 2);
        due("CELL 0 of SHEET 0", x.at(0, 0, 0, 0), cell(0));
    }

    static void p36_a_way_that_was_read_stays() {
        says("A SHEET is a new row of CELLS 0: 1.");
        OverABar x = sheeted(BYTES, 16);
        x.film(0, 0, BYTES, 0, 2, 1);
        x.sheet(0, BYTES, 16);
        due("at(0, 0, 0, 0)", x.at(0, 0, 0, 0), cell(0));
        x.lay(0, 1, 5);
        due("at(0, 0, 0, 1)", x.at(0, 0, 0, 1), cell(1));
    }

    static void p36_bad_above_64() {
        says("BAD: also n above 64;");
        for (int n : new int[] {65, 66, MAX}) {
            refused("sheet(0, 0, " + n + ")", x -> x.sheet(0, BYTES, n), BAD);
            refused("sheet(3, 0, " + n + ")", x -> x.sheet(3, BYTES, n), BAD);
        }
    }

    static void p36_size_below_0() {
        says("-10 - 4.");
        says("4 SIZE (below 0).");
        for (int n : new int[] {-1, -64, MIN}) {
            for (int k = 0; k < 4; k++) {
                int sheet = k;
                refused("sheet(" + k + ", 1, " + n + ")", x -> x.sheet(sheet, SHORTS, n), -14);
            }
        }
    }

    static void p36_bad_ahead_of_size() {
        says("the first that fits;");
        refused("sheet(4, 0, -1)", x -> x.sheet(4, BYTES, -1), BAD);
        refused("sheet(-1, 0, -1)", x -> x.sheet(-1, BYTES, -1), BAD);
        refused("sheet(0, 3, -1)", x -> x.sheet(0, 3, -1), BAD);
        refused("sheet(0, -1, -1)", x -> x.sheet(0, -1, -1), BAD);
    }

    // ---- 37: lay

    static void p37_cell_i_becomes_v() {
        says("CELL i of a SHEET becomes v");
        for (int i = 0; i < 64; i += 9) {
            OverABar x = new OverABar();
            x.sheet(0, BYTES, 64);
            due("lay(0, " + i + ", -9)", x.lay(0, i, -9), 1);
            x.film(0, 0, BYTES, 0, 8, 1);
            for (int k = 0; k < 64; k++) {
                due("CELL " + k, x.at(0, k / 8, k % 8 / 2, k % 2), k == i ? -9 : 0);
            }
        }
    }

    /** v laid in a CELL of a lane becomes want, which film() tells if it is -9 to 9. */
    private static void dueCell(int lane, int v, int want) {
        OverABar x = new OverABar();
        x.sheet(0, lane, 16);
        due("lay of " + v, x.lay(0, 0, v), 1);
        boolean fits = want >= -9 && want <= 9;
        due("film of " + v + " in lane " + lane, x.film(0, 0, lane, 0, 2, 1), fits ? 2 : -20);
        due("CELL of " + v + " in lane " + lane, x.at(0, 0, 0, 0), fits ? want : -1000);
    }

    static void p37_its_lowest_bits() {
        says("(its lowest bits): 1.");
        for (int small = -9; small <= 9; small++) {
            for (int high : new int[] {0, 1 << 8, 1 << 15, 1 << 16, 1 << 31, 255 << 8, -1 << 8, -1 << 16}) {
                int v = small + high;
                dueCell(BYTES, v, (byte) v);
                dueCell(SHORTS, v, (short) v);
                dueCell(INTS, v, v);
            }
        }
        // 255 is -1 by 8 bits alone, 65535 by 16; 128 is -128
        dueCell(BYTES, 255, -1);
        dueCell(SHORTS, 255, 255);
        dueCell(SHORTS, 65535, -1);
        dueCell(INTS, 65535, 65535);
        dueCell(BYTES, 128, -128);
        dueCell(BYTES, 127, 127);
        dueCell(SHORTS, 32768, -32768);
        dueCell(INTS, MIN, MIN);
        dueCell(INTS, MAX, MAX);
    }

    static void p37_bad_k() {
        says("BAD: k;");
        for (int k : NO_SHEETS) {
            refused("lay(" + k + ", 0, 0)", x -> x.lay(k, 0, 0), BAD);
        }
    }

    static void p37_null() {
        says("-10 less the FAULT: NULL,");
        says("A FAULT is what the machine finds: 1 NULL (nothing),");
        // SHEET 3 has nothing
        for (int i : new int[] {0, -1, 64, MIN, MAX}) {
            refused("lay(3, " + i + ", 1)", x -> x.lay(3, i, 1), -11);
        }
    }

    static void p37_index() {
        says("INDEX.");
        says("2 INDEX,");
        // SHEET 0 has 18 CELLS, SHEET 1 none, SHEET 2 16
        for (int i : new int[] {-1, 18, 64, MIN, MAX}) {
            refused("lay(0, " + i + ", 1)", x -> x.lay(0, i, 1), -12);
        }
        refused("lay(1, 0, 1)", x -> x.lay(1, 0, 1), -12);
        refused("lay(2, 16, 1)", x -> x.lay(2, 16, 1), -12);
    }

    static void p37_index_of_cells_that_are_gone() {
        says("INDEX.");
        OverABar x = sheeted(BYTES, 64);
        x.sheet(0, BYTES, 10);
        due("lay(0, 9, 1)", x.lay(0, 9, 1), 1);
        due("lay(0, 10, 1)", x.lay(0, 10, 1), -12);
    }

    // ---- 38: film

    static void p38_n_tenths_of_eight_cells() {
        says("n (2 to 8) TENTHS of a WAY (X, Y of PARTS 0 to 3: eight CELLS each) are read of a SHEET taken as of a lane,");
        says("in place of the WAY: how many came.");
        for (int lane = 0; lane <= 2; lane++) {
            for (int n = 2; n <= 8; n++) {
                OverABar x = sheeted(lane, 64);
                x.way(5, 8, 1);
                x.put(5, 0, 0, 3, 3);
                due("film of " + n, x.film(5, 0, lane, 0, n, 2), n);
                due("of(5, 0)", x.of(5, 0), n);
                due("of(5, 1)", x.of(5, 1), 2);
                for (int i = 0; i < 64; i++) {
                    due("number " + i, x.at(5, i / 8, i % 8 / 2, i % 2), i < 8 * n ? cell(i) : -1000);
                }
                due("torn()", x.torn(), 0);
            }
        }
    }

    static void p38_from_cell_f_on() {
        says("from CELL f on,");
        OverABar x = sheeted(BYTES, 64);
        for (int f : new int[] {0, 1, 7, 8, 47, 48}) {
            due("film from CELL " + f, x.film(0, 0, BYTES, f, 2, 1), 2);
            due("the first number", x.at(0, 0, 0, 0), cell(f));
            due("the last number", x.at(0, 1, 3, 1), cell(f + 15));
            due("torn()", x.torn(), 0);
        }
        due("film from CELL 49, one CELL short", x.film(0, 0, BYTES, 49, 2, 1), 0);
        due("torn()", x.torn(), INDEX);
    }

    static void p38_in_place_of_a_way_or_of_none() {
        says("in place of the WAY:");
        OverABar x = sheeted(BYTES, 64);
        for (int w = 0; w <= 5; w++) {
            due("film of WAY " + w, x.film(w, 0, BYTES, w, 2, 1), 2);
        }
        for (int w = 0; w <= 5; w++) {
            due("at(" + w + ", 0, 0, 0)", x.at(w, 0, 0, 0), cell(w));
        }
        x.film(0, 0, BYTES, 0, 8, 1);
        x.film(0, 0, BYTES, 0, 2, 1);
        due("a TENTH that it had", x.at(0, 2, 0, 0), -1000);
        due("count(1)", x.count(1), 12);
    }

    static void p38_those_whole_ahead_come() {
        says("What the machine refuses: those that were whole ahead come, if they are two or more;");
        // of 8 TENTHS asked, by how many CELLS there are behind f
        for (int cells = 0; cells <= 64; cells++) {
            OverABar x = sheeted(SHORTS, cells);
            x.way(1, 5, 1);
            int whole = cells / 8;
            due("film of " + cells + " CELLS", x.film(1, 0, SHORTS, 0, 8, 2), whole < 2 ? 0 : whole);
            due("torn()", x.torn(), whole < 8 ? INDEX : 0);
            due("of(1, 0)", x.of(1, 0), whole < 2 ? 5 : whole);
            due("of(1, 1)", x.of(1, 1), whole < 2 ? 1 : 2);
            due("the first number", x.at(1, 0, 0, 0), whole < 2 ? 0 : cell(0));
            due("the last number", x.at(1, Math.max(2, whole) - 1, 3, 1), whole < 2 ? 0 : cell(8 * whole - 1));
        }
    }

    static void p38_else_none_comes_and_the_way_stays() {
        says("else none comes (0) and the WAY stays (its FAULT is asked by torn()).");
        OverABar x = crowd();
        // one TENTH whole; none; nothing; another lane
        int[][] calls = {{0, 0, BYTES, 3, INDEX}, {0, 0, BYTES, 11, INDEX}, {0, 3, BYTES, 0, NULL}, {0, 0, INTS, 0, CAST},
            {0, 1, SHORTS, 0, INDEX}, {1, 0, BYTES, 3, INDEX}, {1, 3, INTS, 0, NULL}};
        for (int[] a : calls) {
            due("film", x.film(a[0], a[1], a[2], a[3], 2, 1), 0);
            due("torn()", x.torn(), a[4]);
            due("of(0, 0)", x.of(0, 0), 4);
            due("of(0, 1)", x.of(0, 1), 2);
            due("at(0, 0, 0, 0)", x.at(0, 0, 0, 0), -1);
            due("at(0, 3, 3, 1)", x.at(0, 3, 3, 1), -4);
            due("of(1, 0)", x.of(1, 0), BAD);
        }
    }

    static void p38_index_from_any_f() {
        says("from CELL f on,");
        says("2 INDEX,");
        OverABar x = sheeted(INTS, 64);
        for (int f : new int[] {-1, -8, -64, 49, 63, 64, 65, MAX, MAX - 7, MAX - 15, MAX - 63, MIN, MIN + 1}) {
            x.film(0, 0, BYTES, 0, 2, 1);
            due("torn() of another lane", x.torn(), CAST);
            due("film from CELL " + f, x.film(0, 0, INTS, f, 8, 1), 0);
            due("torn() from CELL " + f, x.torn(), INDEX);
        }
        due("there is no WAY", x.of(0, 0), BAD);
    }

    static void p38_null_ahead_of_cast_and_index() {
        says("1 NULL (nothing),");
        OverABar x = new OverABar();
        for (int lane = 0; lane <= 2; lane++) {
            due("film of nothing", x.film(0, 2, lane, -1, 2, 1), 0);
            due("torn()", x.torn(), NULL);
        }
    }

    static void p38_cast_ahead_of_index() {
        says("3 CAST (another lane),");
        for (int lane = 0; lane <= 2; lane++) {
            OverABar x = new OverABar();
            x.sheet(0, lane, 0);
            for (int as = 0; as <= 2; as++) {
                due("film of no CELLS as of lane " + as, x.film(0, 0, as, MIN, 2, 1), 0);
                due("torn()", x.torn(), as == lane ? INDEX : CAST);
            }
        }
    }

    static void p38_cast_ahead_of_what_is_out_of_bounds() {
        says("3 CAST (another lane),");
        OverABar x = sheeted(BYTES, 16);
        x.lay(0, 0, 10);
        due("film as of its lane", x.film(0, 0, BYTES, 0, 2, 1), -20);
        due("film as of another lane", x.film(0, 0, SHORTS, 0, 2, 1), 0);
        due("torn()", x.torn(), CAST);
    }

    static void p38_bad() {
        says("BAD: w, k, lane, n, feet;");
        int[][] wrong = {{-1, 0, 0, 0, 2, 1}, {6, 0, 0, 0, 2, 1}, {MAX, 0, 0, 0, 2, 1}, {0, -1, 0, 0, 2, 1},
            {0, 4, 0, 0, 2, 1}, {0, MIN, 0, 0, 2, 1}, {0, 0, -1, 0, 2, 1}, {0, 0, 3, 0, 2, 1}, {0, 0, MAX, 0, 2, 1},
            {0, 0, 0, 0, 1, 1}, {0, 0, 0, 0, 9, 1}, {0, 0, 0, 0, MIN, 1}, {0, 0, 0, 0, 2, 0}, {0, 0, 0, 0, 2, 3},
            {0, 0, 0, 0, 2, MAX}};
        for (int[] a : wrong) {
            refused("film", x -> x.film(a[0], a[1], a[2], a[3], a[4], a[5]), BAD);
        }
    }

    static void p38_bad_ahead_of_faults() {
        says("the first that fits;");
        refused("film of nothing, FEET 3", x -> x.film(0, 3, BYTES, 0, 2, 3), BAD);
        refused("film as of another lane, n 9", x -> x.film(0, 0, INTS, 0, 9, 1), BAD);
        refused("film from CELL -1, n 1", x -> x.film(0, 0, BYTES, -1, 1, 1), BAD);
    }

    static void p38_a_cell_that_is_not_minus_9_to_9() {
        says("-20 less i: TENTH i, whole, has a CELL that is not -9 to 9: the WAY stays;");
        for (int i = 0; i < 64; i++) {
            OverABar x = sheeted(INTS, 64);
            x.way(0, 3, 2);
            x.put(0, 2, 3, 7, -7);
            for (int v : new int[] {10, -10, MIN, MAX}) {
                x.lay(0, i, v);
                due("film, CELL " + i + " is " + v, x.film(0, 0, INTS, 0, 8, 1), -20 - i / 8);
            }
            due("of(0, 0)", x.of(0, 0), 3);
            due("of(0, 1)", x.of(0, 1), 2);
            due("at(0, 2, 3, 1)", x.at(0, 2, 3, 1), -7);
            for (int v : new int[] {9, -9}) {
                x.lay(0, i, v);
                due("film, CELL " + i + " is " + v, x.film(0, 0, INTS, 0, 8, 1), 8);
                due("number " + i, x.at(0, i / 8, i % 8 / 2, i % 2), v);
            }
        }
    }

    static void p38_the_first_met() {
        says("the first met.");
        OverABar x = sheeted(BYTES, 24);
        x.lay(0, 8, 10);
        x.lay(0, 23, 10);
        due("of TENTHS 1 and 2", x.film(0, 0, BYTES, 0, 3, 1), -21);
        due("ahead of the end of the SHEET", x.film(0, 0, BYTES, 0, 8, 1), -21);
        due("from CELL 8 on", x.film(0, 0, BYTES, 8, 3, 1), -20);
        x.lay(0, 8, 0);
        due("TENTH 2, behind two that are whole", x.film(0, 0, BYTES, 0, 8, 1), -22);
        due("not of what is read", x.film(0, 0, BYTES, 0, 2, 1), 2);
        due("there is a WAY", x.of(0, 0), 2);
    }

    static void p38_a_tenth_that_is_not_whole() {
        says("-20 less i: TENTH i, whole,");
        OverABar x = sheeted(BYTES, 23);
        x.lay(0, 16, 10);
        due("film, TENTH 2 has 7 CELLS", x.film(0, 0, BYTES, 0, 3, 1), 2);
        due("torn()", x.torn(), INDEX);
        x = sheeted(BYTES, 15);
        x.lay(0, 8, 10);
        due("film, TENTH 1 has 7 CELLS", x.film(0, 0, BYTES, 0, 2, 1), 0);
        due("torn()", x.torn(), INDEX);
    }

    static void p38_out_of_bounds_changes_nothing() {
        says("what is refused changes nothing");
        // SHEET 2 has a CELL of 10 in TENTH 1
        refused(() -> {
            OverABar x = crowd();
            x.lay(2, 9, 10);
            return x;
        }, "film", x -> x.film(0, 2, INTS, 0, 2, 1), -21);
    }

    // ---- 39: torn

    static void p39_of_the_latest_film() {
        says("The FAULT of the latest film() that came to an end;");
        OverABar x = sheeted(BYTES, 23);
        x.film(0, 3, BYTES, 0, 2, 1);
        due("torn(), NULL", x.torn(), NULL);
        due("torn() again", x.torn(), NULL);
        x.film(0, 0, BYTES, 0, 3, 1);
        due("torn(), INDEX, though two came", x.torn(), INDEX);
        x.film(0, 0, SHORTS, 0, 2, 1);
        due("torn(), CAST", x.torn(), CAST);
        x.film(0, 0, BYTES, 0, 2, 1);
        due("torn(), none", x.torn(), 0);
    }

    static void p39_that_came_to_an_end() {
        says("that came to an end;");
        OverABar x = sheeted(BYTES, 16);
        x.lay(0, 8, 10);
        due("film", x.film(0, 0, BYTES, 0, 2, 1), -21);
        due("torn() ahead of any that came to an end", x.torn(), 0);
        x.film(0, 3, BYTES, 0, 2, 1);
        due("film, BAD", x.film(0, 0, BYTES, 0, 9, 1), BAD);
        due("torn() behind BAD", x.torn(), NULL);
        due("film, -21", x.film(0, 0, BYTES, 0, 2, 1), -21);
        due("torn() behind -21", x.torn(), NULL);
    }

    static void p39_not_of_sheet_or_lay() {
        says("The FAULT of the latest film()");
        OverABar x = sheeted(BYTES, 16);
        x.film(0, 0, INTS, 0, 2, 1);
        x.sheet(1, BYTES, -1);
        x.lay(2, 0, 0);
        x.lay(0, 16, 0);
        x.sheet(0, BYTES, 16);
        due("torn()", x.torn(), CAST);
        tells("torn()", y -> y.torn());
    }

    static void p39_0() {
        says("0.");
        OverABar x = new OverABar();
        due("torn() ahead of film()", x.torn(), 0);
        x.sheet(0, BYTES, 16);
        x.film(0, 1, BYTES, 0, 2, 1);
        x.film(0, 0, BYTES, 0, 2, 1);
        due("torn() behind a film() without FAULT", x.torn(), 0);
    }

    // ---- 40: count

    static void p40_ways() {
        says("How many: 0 WAYS,");
        OverABar x = new OverABar();
        due("count(0)", x.count(0), 0);
        for (int w = 0; w < 6; w++) {
            x.way(5 - w, 2, 1);
            due("count(0)", x.count(0), w + 1);
        }
        x.way(0, 3, 1);
        due("count(0), a WAY anew", x.count(0), 6);
    }

    static void p40_tenths_of_all() {
        says("1 TENTHS of all,");
        OverABar x = new OverABar();
        due("count(1)", x.count(1), 0);
        for (int w = 0; w < 6; w++) {
            x.way(w, 8, 1);
            due("count(1)", x.count(1), 8 * (w + 1));
        }
        x.way(5, 2, 1);
        due("count(1), a WAY anew", x.count(1), 42);
        x.copy(5, 0);
        due("count(1), a copy", x.count(1), 36);
    }

    static void p40_jumpers() {
        says("2 JUMPERS,");
        OverABar x = new OverABar();
        for (int j = 0; j <= 12; j++) {
            due("count(2)", x.count(2), j);
            x.jumper(0);
        }
        due("count(2) behind FULL", x.count(2), 12);
    }

    static void p40_unlike_ways_of_these() {
        says("3 unlike WAYS of these,");
        OverABar x = new OverABar();
        due("count(3) of none", x.count(3), 0);
        for (int w = 0; w < 6; w++) {
            x.jumper(w);
            due("count(3)", x.count(3), w + 1);
            x.jumper(w);
            due("count(3), one more of it", x.count(3), w + 1);
        }
        for (int j = 0; j < 12; j++) {
            x.takes(j, 5);
        }
        due("count(3) of one WAY", x.count(3), 1);
    }

    static void p40_ways_are_unlike_by_their_numbers() {
        says("3 unlike WAYS of these,");
        OverABar x = flat("", 2);
        x.copy(0, 1);
        x.jumper(0);
        x.jumper(1);
        due("count(3) of two that hold the same", x.count(3), 2);
    }

    static void p40_bytes_on_the_tape() {
        says("4 bytes on THE TAPE,");
        OverABar x = new OverABar();
        due("count(4)", x.count(4), 0);
        for (int i = 1; i <= 25; i++) {
            x.feed(0);
            due("count(4)", x.count(4), 8 * i);
        }
        x.feed(0);
        due("count(4) behind FULL", x.count(4), 200);
        x.end(199);
        due("count(4) behind end(199)", x.count(4), 199);
        x.text();
        due("count(4) behind text()", x.count(4), 0);
    }

    static void p40_cells_of_sheet_0() {
        says("5 CELLS of SHEET 0 (NONE: nothing).");
        OverABar x = new OverABar();
        x.sheet(1, BYTES, 5);
        due("count(5), nothing", x.count(5), NONE);
        x.sheet(0, BYTES, -1);
        due("count(5) behind SIZE", x.count(5), NONE);
        x.sheet(0, BYTES, 0);
        due("count(5), no CELLS", x.count(5), 0);
        x.sheet(0, INTS, 64);
        due("count(5)", x.count(5), 64);
        x.sheet(0, INTS, 65);
        due("count(5) behind BAD", x.count(5), 64);
    }

    static void p40_bad() {
        says("BAD.");
        for (int what : new int[] {-1, 6, MIN, MAX}) {
            refused("count(" + what + ")", x -> x.count(what), BAD);
        }
        for (int what = 0; what < 6; what++) {
            int w = what;
            tells("count(" + what + ")", x -> x.count(w));
        }
    }
}
