/** Edges of promises 1 to 6: a new object and the text. */
final class EdgesOfText extends Edges {
    private static final int[] USUAL = {5, 5, 5, 5, 9, 9, 9, 20, 5, 2, 15, 10, 2, 6, 1, 0, 0, 1};
    /** NAMES of lines of one NUMBER, in the order of rule(7) to rule(17). */
    private static final String[] NAMES = {"rise", "run", "fall", "mark", "stand", "near", "quick", "feet", "pit", "habit",
        "seen"};

    private static int[] rules(OverABar x) {
        int[] row = new int[18];
        for (int what = 0; what < 18; what++) {
            row[what] = x.rule(what);
        }
        return row;
    }

    private static String blanks(int n) {
        return " ".repeat(n);
    }

    private static String sign(int b) {
        return String.valueOf((char) b);
    }

    // ---- 1: a new object

    static void p01_as_told_at_first() {
        says("As told at first;");
        OverABar x = new OverABar();
        dueRow("rule", rules(x), USUAL);
        due("fault()", x.fault(), 0);
        due("torn()", x.torn(), 0);
        due("count(4)", x.count(4), 0);
    }

    static void p01_no_ways_jumpers() {
        says("no WAYS, JUMPERS;");
        OverABar x = new OverABar();
        for (int w = 0; w < 6; w++) {
            due("of(" + w + ", 0)", x.of(w, 0), BAD);
            due("who(" + w + ")", x.who(w), 0);
        }
        due("count(0)", x.count(0), 0);
        due("count(1)", x.count(1), 0);
        due("count(2)", x.count(2), 0);
        due("count(3)", x.count(3), 0);
        due("takes(0, 0)", x.takes(0, 0), BAD);
        due("best(0)", x.best(0), NONE);
        due("best(1)", x.best(1), -1);
    }

    static void p01_sheets_have_nothing() {
        says("SHEETS have nothing.");
        OverABar x = new OverABar();
        for (int k = 0; k < 4; k++) {
            due("lay(" + k + ", 0, 0)", x.lay(k, 0, 0), -10 - NULL);
            due("film of SHEET " + k, x.film(0, k, BYTES, 0, 2, 1), 0);
            due("torn()", x.torn(), NULL);
        }
        due("count(5)", x.count(5), NONE);
    }

    static void p01_objects_have_nothing_in_common() {
        says("As told at first; no WAYS, JUMPERS; SHEETS have nothing.");
        crowd();
        OverABar x = new OverABar();
        dueRow("rule", rules(x), USUAL);
        int[] want = {0, 0, 0, 0, 0, NONE};
        for (int what = 0; what < want.length; what++) {
            due("count(" + what + ")", x.count(what), want[what]);
        }
    }

    static void p01_used_for_512_calls() {
        says("An object is used for at most 512 calls after it has been made; what later calls answer is free.");
        OverABar x = new OverABar();
        x.way(0, 7, 1);
        for (int call = 2; call <= 511; call++) {
            due("high(0), call " + call, x.high(0), 52);
        }
        due("better(0), call 512", x.better(0), NONE);
        x = new OverABar();
        for (int round = 0; round < 170; round++) {
            x.feed(Bench.words("rise 21;")[0]);
            due("text() of round " + round, x.text(), 1);
            due("rule(7) of round " + round, x.rule(7), 21);
        }
    }

    static void p01_answers() {
        says("Answers: BAD -1 (a number is not as told, there is no such WAY, TENTH, PART, SHEET), STATE -2 (as told), "
            + "FULL -3, NONE -4 (there is none),");
        due("BAD", OverABar.BAD, -1);
        due("STATE", OverABar.STATE, -2);
        due("FULL", OverABar.FULL, -3);
        due("NONE", OverABar.NONE, -4);
        OverABar x = flat("", 3);
        due("a number is not as told", x.way(1, 9, 1), -1);
        due("no such WAY", x.high(1), -1);
        due("no such TENTH", x.near(0, 3, 0), -1);
        due("no such PART", x.near(0, 0, 4), -1);
        due("no such SHEET", x.lay(4, 0, 0), -1);
    }

    // ---- 2: feed

    static void p02_the_highest_byte_first() {
        says("Eight bytes come behind THE TAPE, the highest first: how many it has.");
        for (int i = 0; i < 8; i++) {
            OverABar x = new OverABar();
            // blanks, but for one byte 36, which is no TOKEN
            due("feed", x.feed(0x2020202020202020L + (4L << 56 - 8 * i)), 8);
            due("text() with byte " + i + " no TOKEN", x.text(), -10 - i);
        }
    }

    static void p02_behind_what_is_there() {
        says("Eight bytes come behind THE TAPE,");
        OverABar x = new OverABar();
        due("feed", x.feed(Bench.words("rise 2  ")[0]), 8);
        due("end(6)", x.end(6), 8);
        due("feed behind six bytes", x.feed(Bench.words("7;run 3;")[0]), 14);
        due("text()", x.text(), 2);
        due("rule(7)", x.rule(7), 27);
        due("rule(8)", x.rule(8), 3);
    }

    static void p02_each_byte_from_0_to_255() {
        says("Eight bytes come behind THE TAPE,");
        for (int b = 0; b < 256; b++) {
            if (b != 32) {
                OverABar x = new OverABar();
                // the byte stands last, with blanks ahead
                x.feed(0x2020202020202000L + b);
                due("text() with byte " + b + " in place 7", x.text(), -17);
            }
        }
    }

    static void p02_full_more_than_200() {
        says("FULL: more than 200.");
        OverABar x = new OverABar();
        for (int i = 1; i <= 25; i++) {
            due("feed " + i, x.feed(0), 8 * i);
        }
        due("feed behind 200 bytes", x.feed(0), FULL);
        x.end(199);
        due("feed behind 199 bytes", x.feed(0), FULL);
        x.end(193);
        due("feed behind 193 bytes", x.feed(0), FULL);
        x.end(192);
        due("feed behind 192 bytes", x.feed(0), 200);
    }

    static void p02_full_changes_nothing() {
        says("what is refused changes nothing (but THE TAPE, as told).");
        OverABar x = new OverABar();
        Bench.lay(x, blanks(186) + "rise 33");
        due("count(4)", x.count(4), 193);
        due("feed", x.feed(Bench.words("$$$$$$$$")[0]), FULL);
        due("count(4) behind FULL", x.count(4), 193);
        due("text(): the end is a FAULT", x.text(), -203);
        Bench.lay(x, blanks(192) + "rise 33;");
        due("feed", x.feed(Bench.words("$$$$$$$$")[0]), FULL);
        due("count(4) behind FULL", x.count(4), 200);
        due("text()", x.text(), 1);
        due("rule(7)", x.rule(7), 33);
    }

    // ---- 3: end

    static void p03_keeps_its_first_n_bytes() {
        says("THE TAPE keeps its first n bytes:");
        for (int n = 0; n <= 8; n++) {
            OverABar x = new OverABar();
            x.feed(Bench.words("rise 7;$")[0]);
            due("end(" + n + ")", x.end(n), 8);
            due("count(4)", x.count(4), n);
            int[] want = {0, -10, -10, -10, -14, -15, -16, 1, -17};
            due("text() of " + n + " bytes", x.text(), want[n]);
        }
    }

    static void p03_what_is_cut_off_is_gone() {
        says("THE TAPE keeps its first n bytes:");
        OverABar x = new OverABar();
        x.feed(Bench.words("rise 77;")[0]);
        x.end(6);
        x.feed(Bench.words(";       ")[0]);
        due("text()", x.text(), 1);
        due("rule(7)", x.rule(7), 7);
    }

    static void p03_how_many_it_had() {
        says("how many it had.");
        OverABar x = new OverABar();
        due("end(0) of an empty one", x.end(0), 0);
        x.feed(0);
        due("end(8)", x.end(8), 8);
        due("end(1)", x.end(1), 8);
        due("end(0)", x.end(0), 1);
        due("end(0)", x.end(0), 0);
        for (int i = 0; i < 25; i++) {
            x.feed(0);
        }
        due("end(200) of a full one", x.end(200), 200);
        due("end(199)", x.end(199), 200);
        due("end(0)", x.end(0), 199);
    }

    static void p03_bad() {
        says("BAD.");
        OverABar x = new OverABar();
        due("end(1) of an empty one", x.end(1), BAD);
        due("end(-1)", x.end(-1), BAD);
        x.feed(0);
        due("end(9) of 8", x.end(9), BAD);
        x.end(5);
        due("end(6): what was cut off does not come again", x.end(6), BAD);
        x.text();
        due("end(1) behind text()", x.end(1), BAD);
        for (int i = 0; i < 25; i++) {
            x.feed(0);
        }
        due("end(201) of a full one", x.end(201), BAD);
    }

    static void p03_bad_changes_nothing() {
        says("what is refused changes nothing");
        for (int n : new int[] {-1, 14, 201, MIN, MAX}) {
            refused("end(" + n + ")", x -> x.end(n), BAD);
        }
    }

    // ---- 4: text

    static void p04_empty_then() {
        says("THE TAPE (empty then) tells all:");
        OverABar x = new OverABar();
        for (String text : new String[] {"rise 5;", "foam", "rise", "", "rise 99;"}) {
            Bench.lay(x, text);
            x.text();
            due("count(4) behind text() of '" + text + "'", x.count(4), 0);
        }
        due("feed", x.feed(0x2020202020202020L), 8);
        due("text() of what came behind it", x.text(), 0);
    }

    static void p04_empty_text_tells_all() {
        says("THE TAPE (empty then) tells all:");
        OverABar x = told("rise 5;weight 2 7;");
        due("text() of nothing", x.text(), 0);
        dueRow("rule", rules(x), USUAL);
    }

    static void p04_how_many_lines() {
        says("how many lines;");
        dueText("", 0, 0);
        dueText("rise 5;", 1, 0);
        dueText("rise 5;run 5;", 2, 0);
        dueText("weight 0 5;weight 1 5;weight 2 5;weight 3 5;bend 0 9;bend 1 9;bend 2 9;rise 20;run 5;fall 2;mark 15;"
            + "stand 10;near 2;quick 6;feet 1;pit 0;habit 0;seen 1;", 18, 0);
    }

    static void p04_minus_10_less_the_place() {
        says("-10 less the place of its FAULT:");
        for (int place : new int[] {0, 1, 7, 8, 100, 198, 199}) {
            dueText(blanks(place) + "$", -10 - place, NO_TOKEN);
        }
    }

    static void p04_200_bytes_places_from_0() {
        says("THE TAPE has 200 bytes, places from 0.");
        dueText("$" + blanks(199), -10, NO_TOKEN);
        dueText(blanks(199) + "$", -209, NO_TOKEN);
        dueText(blanks(196) + "rise", -210, STANDS);
        dueText(blanks(200), 0, 0);
        OverABar x = told(blanks(192) + "rise 33;");
        due("rule(7) of the last bytes", x.rule(7), 33);
    }

    static void p04_what_was_told_stays() {
        says("that which was told stays.");
        OverABar x = told("weight 1 11;bend 2 12;rise 13;habit 14;");
        int[] want = rules(x);
        for (String text : new String[] {"rise 40;run 9;foam", "rise 40;run", "rise 40;run 0;", "run 4;rise 4;run 4;",
            "weight 1 5;weight 1 5;", "$"}) {
            due("text() of '" + text + "' is a FAULT", Bench.tell(x, text) <= -10 ? 1 : 0, 1);
            dueRow("rule", rules(x), want);
        }
    }

    static void p04_fault_changes_the_tape_alone() {
        says("what is refused changes nothing (but THE TAPE, as told).");
        OverABar x = crowd();
        x.end(0);
        Bench.lay(x, "rise 40;near 99;");
        due("text()", x.text(), -23);
        Bench.lay(x, "near 7; run 3");
        // the FAULT that crowd() had was of the same number
        due("all but the tape is as it was", everything(x).equals(everything(crowd())) ? 1 : 0, 1);
    }

    static void p04_blanks_32() {
        says("blanks (32) between:");
        for (int b = 0; b < 256; b++) {
            boolean isLetter = b >= 'a' && b <= 'z';
            boolean isFigure = b >= '0' && b <= '9';
            int fault = b == 32 ? 0 : isFigure || b == ';' ? STANDS : NO_TOKEN;
            dueText(sign(b), fault == 0 ? 0 : -10, fault);
            if (!isLetter && !isFigure && b != ';') {
                dueText("rise" + sign(b) + "5;", b == 32 ? 1 : -14, b == 32 ? 0 : NO_TOKEN);
                dueText("rise 5" + sign(b) + ";", b == 32 ? 1 : -16, b == 32 ? 0 : NO_TOKEN);
                dueText("rise 5;" + sign(b), b == 32 ? 1 : -17, b == 32 ? 0 : NO_TOKEN);
            }
        }
    }

    static void p04_blanks_may_be_none_or_many() {
        says("blanks (32) between:");
        dueText("rise5;run6;weight0 7;", 3, 0);
        dueText("  rise   5  ;  weight  0  7  ;  ", 2, 0);
    }

    static void p04_names_a_to_z() {
        says("NAMES (a .. z),");
        // bytes beside a and z, and those of A and Z, are of no NAME; a and z are
        for (int b : new int[] {'a' - 1, 'z' + 1, 'A', 'Z', 'a' + 128}) {
            dueText("rise" + sign(b), -14, NO_TOKEN);
        }
        for (int b = 'a'; b <= 'z'; b++) {
            dueText("rise" + sign(b) + " 5;", -10, NO_TOKEN);
            dueText("rise 5;" + sign(b), -17, NO_TOKEN);
        }
        dueText("Rise 5;", -10, NO_TOKEN);
        dueText("RISE 5;", -10, NO_TOKEN);
    }

    static void p04_numbers_1_or_2_figures() {
        says("NUMBERS (1 or 2 figures),");
        for (int v = 0; v <= 9; v++) {
            OverABar x = told("mark " + v + ";");
            due("rule(10) of one figure", x.rule(10), v);
            dueText(x, "mark 0" + v + ";", 1, 0);
            due("rule(10) of two figures", x.rule(10), v);
            dueText(x, "mark " + (90 + v) + ";", 1, 0);
            due("rule(10) of two figures", x.rule(10), 90 + v);
            dueText(x, "mark 00" + v + ";", -15, NO_TOKEN);
        }
        // bytes beside 0 and 9
        dueText("mark 1" + sign('0' - 1) + ";", -16, NO_TOKEN);
        dueText("mark 1" + sign('9' + 1) + ";", -16, NO_TOKEN);
        dueText("mark 1 1;", -17, STANDS);
    }

    static void p04_one_semicolon() {
        says("one ; .");
        dueText("rise 5;;", -17, STANDS);
        dueText("rise 5; ;", -18, STANDS);
        dueText("rise 5:", -16, NO_TOKEN);
        dueText("rise 5<", -16, NO_TOKEN);
    }

    static void p04_each_as_long_as_may_be() {
        says("TOKENS, each as long as may be,");
        dueText("riserun 5;", -10, NO_TOKEN);
        dueText("rises 5;", -10, NO_TOKEN);
        // not PART 0 and WEIGHT 3, but PART 3 and no WEIGHT
        dueText("weight 03;", -19, STANDS);
        // not 5 and 5, which would be FAULT 2 in place 6
        dueText("rise 555;", -15, NO_TOKEN);
        OverABar x = told("rise 55;");
        due("rule(7)", x.rule(7), 55);
    }

    static void p04_text_of_no_line() {
        says("text: { line }");
        dueText("", 0, 0);
        dueText(" ", 0, 0);
        dueText(blanks(17), 0, 0);
    }

    static void p04_line_of_two_numbers() {
        says("line: weight N N ; | bend N N ; |");
        for (String name : new String[] {"weight", "bend"}) {
            int n = name.length();
            dueText(name + " 2 7;", 1, 0);
            dueText(name + ";", -10 - n, STANDS);
            dueText(name + " 2;", -12 - n, STANDS);
            dueText(name + " 2 7 7;", -15 - n, STANDS);
        }
    }

    static void p04_line_of_one_number() {
        says("rise N ; | run N ; | fall N ; | mark N ; | stand N ; | near N ; | quick N ; | feet N ; | pit N ; "
            + "| habit N ; | seen N ;");
        for (int i = 0; i < NAMES.length; i++) {
            int n = NAMES[i].length();
            OverABar x = new OverABar();
            dueText(x, NAMES[i] + " 2;", 1, 0);
            due("rule of " + NAMES[i], x.rule(7 + i), 2);
            dueText(NAMES[i] + ";", -10 - n, STANDS);
            dueText(NAMES[i] + " 2 2;", -13 - n, STANDS);
        }
    }

    /** Both ends of what a line may tell, what is beside them, and what holds, if it is not told. */
    private static void bounds(String name, int rule, int least, int most, int usual) {
        OverABar x = new OverABar();
        int place = -10 - name.length() - 1;
        due("rule(" + rule + ") at first", x.rule(rule), usual);
        dueText(x, name + " " + least + ";", 1, 0);
        due("rule(" + rule + "), the least", x.rule(rule), least);
        dueText(x, name + " " + most + ";", 1, 0);
        due("rule(" + rule + "), the most", x.rule(rule), most);
        if (least > 0) {
            dueText(x, name + " " + (least - 1) + ";", place, BOUNDS);
        }
        for (int v = most + 1; v <= 99; v++) {
            dueText(x, name + " " + v + ";", place, BOUNDS);
        }
        due("rule(" + rule + ") behind what is refused", x.rule(rule), most);
        dueText(x, "", 0, 0);
        due("rule(" + rule + "), if it is not told", x.rule(rule), usual);
    }

    static void p04_weight_1_to_20() {
        says("PARTS 0 to 3 (head, back, seat, legs), each with a WEIGHT (1 to 20);");
        says("weight: a PART, its WEIGHT (5, if it is not told).");
        for (int p = 0; p < 4; p++) {
            bounds("weight " + p, p, 1, 20, 5);
        }
    }

    static void p04_weight_of_parts_0_to_3() {
        says("weight: a PART,");
        dueText("weight 0 5;weight 3 5;", 2, 0);
        dueText("weight 4 5;", -17, BOUNDS);
        dueText("weight 99 5;", -17, BOUNDS);
    }

    static void p04_bend_1_to_18() {
        says("BEND (3: between PARTS 0 and 1, 1 and 2, 2 and 3; 1 to 18).");
        says("bend: 0 to 2, BEND (9).");
        for (int p = 0; p < 3; p++) {
            bounds("bend " + p, 4 + p, 1, 18, 9);
        }
    }

    static void p04_bend_0_to_2() {
        says("bend: 0 to 2,");
        dueText("bend 0 5;bend 2 5;", 2, 0);
        dueText("bend 3 5;", -15, BOUNDS);
        dueText("bend 99 5;", -15, BOUNDS);
    }

    static void p04_rise_0_to_60() {
        says("rise 0 to 60 (20),");
        bounds("rise", 7, 0, 60, 20);
    }

    static void p04_run_1_to_20() {
        says("run 1 to 20 (5),");
        bounds("run", 8, 1, 20, 5);
    }

    static void p04_fall_1_to_9() {
        says("fall 1 to 9 (2),");
        bounds("fall", 9, 1, 9, 2);
    }

    static void p04_mark_0_to_99() {
        says("mark 0 to 99 (15),");
        bounds("mark", 10, 0, 99, 15);
        dueText("mark 100;", -15, NO_TOKEN);
    }

    static void p04_stand_0_to_30() {
        says("stand 0 to 30 (10),");
        bounds("stand", 11, 0, 30, 10);
    }

    static void p04_near_0_to_9() {
        says("near 0 to 9 (2),");
        bounds("near", 12, 0, 9, 2);
    }

    static void p04_quick_1_to_18() {
        says("quick 1 to 18 (6),");
        bounds("quick", 13, 1, 18, 6);
    }

    static void p04_feet_1_or_2() {
        says("feet 1 or 2 (1),");
        bounds("feet", 14, 1, 2, 1);
    }

    static void p04_pit_0_to_2() {
        says("pit 0 to 2 (0),");
        bounds("pit", 15, 0, 2, 0);
    }

    static void p04_habit_0_to_20() {
        says("habit 0 to 20 (0),");
        bounds("habit", 16, 0, 20, 0);
    }

    static void p04_seen_1_to_5() {
        says("seen 1 to 5 (1).");
        bounds("seen", 17, 1, 5, 1);
    }

    static void p04_the_first_fault_met() {
        says("FAULTS, the first met as it is read (a TOKEN is read when the one before has been taken):");
        // each text has a later FAULT, too, that would be met if more were read ahead
        dueText("run 0 $", -14, BOUNDS);
        dueText("run 0;foam", -14, BOUNDS);
        dueText("rise 99 100", -15, BOUNDS);
        dueText("weight 4 $", -17, BOUNDS);
        dueText("weight 4 0;", -17, BOUNDS);
        dueText("weight 1 0 $", -19, BOUNDS);
        dueText("rise rise $", -15, STANDS);
        dueText("rise ;$", -15, STANDS);
        dueText("5 $", -10, STANDS);
        dueText("; foam", -10, STANDS);
        dueText("rise 5 5$", -17, STANDS);
        dueText("rise 5;rise $", -17, AGAIN);
        dueText("rise 5;rise 99;", -17, AGAIN);
        dueText("weight 1 5;weight 1 $", -28, AGAIN);
        dueText("weight 1 5;weight 1 0;", -28, AGAIN);
        dueText("foam $", -10, NO_TOKEN);
        dueText("rise $ foam", -15, NO_TOKEN);
    }

    static void p04_fault_1_no_token() {
        says("1 no TOKEN,");
        dueText("$", -10, NO_TOKEN);
        dueText("rise $", -15, NO_TOKEN);
        dueText("rise -5;", -15, NO_TOKEN);
        dueText("rise 5$", -16, NO_TOKEN);
        dueText("rise 5;$", -17, NO_TOKEN);
        dueText("weight 1 $", -19, NO_TOKEN);
        dueText("weight 1 5$", -20, NO_TOKEN);
    }

    static void p04_fault_1_a_name_that_is_none() {
        says("a NAME that is none of these,");
        for (String name : ("weight bend " + String.join(" ", NAMES)).split(" ")) {
            dueText(" " + name.substring(0, name.length() - 1) + " 1 1;", -11, NO_TOKEN);
            dueText(" " + name.substring(1) + " 1 1;", -11, NO_TOKEN);
            dueText(" " + name + "s 1 1;", -11, NO_TOKEN);
            dueText(" s" + name + " 1 1;", -11, NO_TOKEN);
            for (int i = 0; i < name.length(); i++) {
                dueText(name.substring(0, i) + "x" + name.substring(i + 1) + " 1 1;", -10, NO_TOKEN);
            }
        }
        dueText("r", -10, NO_TOKEN);
        dueText("weightbend 1 1;", -10, NO_TOKEN);
        dueText("rise foam", -15, NO_TOKEN);
        dueText("rise 5 foam", -17, NO_TOKEN);
        dueText("weight 1 foam", -19, NO_TOKEN);
    }

    static void p04_fault_1_a_number_too_long() {
        says("a NUMBER that is too long (its first byte).");
        dueText("100", -10, NO_TOKEN);
        dueText("rise 100;", -15, NO_TOKEN);
        dueText("rise 000;", -15, NO_TOKEN);
        dueText("rise 5 100", -17, NO_TOKEN);
        dueText("weight 001 5;", -17, NO_TOKEN);
        dueText("weight 1 005;", -19, NO_TOKEN);
        dueText("rise 5;100", -17, NO_TOKEN);
        dueText("rise 00000000000000000000000000000005;", -15, NO_TOKEN);
        dueText("rise 4294967301;", -15, NO_TOKEN);
    }

    static void p04_fault_2_can_not_stand_there() {
        says("2 a TOKEN that can not stand there");
        // at the beginning of a line, behind its NAME, behind a NUMBER
        dueText("5", -10, STANDS);
        dueText(";", -10, STANDS);
        dueText("rise 5;5", -17, STANDS);
        dueText("rise ;", -15, STANDS);
        dueText("rise run", -15, STANDS);
        dueText("rise 5 run", -17, STANDS);
        dueText("rise 5 5", -17, STANDS);
        dueText("weight ;", -17, STANDS);
        dueText("weight run", -17, STANDS);
        dueText("weight 1 ;", -19, STANDS);
        dueText("weight 1 run", -19, STANDS);
        dueText("weight 1 5 5", -21, STANDS);
        dueText("weight 1 5 run", -21, STANDS);
    }

    static void p04_fault_2_the_end() {
        says("(or the end: the length).");
        dueText("rise", -14, STANDS);
        dueText("rise   ", -17, STANDS);
        dueText("rise 5", -16, STANDS);
        dueText("rise 5 ", -17, STANDS);
        dueText("rise 5;run", -20, STANDS);
        dueText("weight", -16, STANDS);
        dueText("weight 1", -18, STANDS);
        dueText("weight 1 5", -20, STANDS);
        dueText(blanks(194) + "rise 5", -210, STANDS);
    }

    static void p04_fault_3_out_of_its_bounds() {
        says("3 a NUMBER out of its bounds.");
        dueText("weight 4", -17, BOUNDS);
        dueText("weight 3 21", -19, BOUNDS);
        dueText("weight 3 0", -19, BOUNDS);
        dueText("bend 3", -15, BOUNDS);
        dueText("bend 2 19", -17, BOUNDS);
        dueText("bend 2 00", -17, BOUNDS);
        dueText("rise 5;run 21;", -21, BOUNDS);
    }

    static void p04_fault_4_its_name() {
        says("4 what is told already (its NAME;");
        for (String name : NAMES) {
            String line = name + " 1;";
            dueText(line + line, -10 - line.length(), AGAIN);
            dueText(line + name, -10 - line.length(), AGAIN);
            dueText(line + "weight 0 5; " + name, -22 - line.length(), AGAIN);
        }
    }

    static void p04_fault_4_the_first_number() {
        says("weight, bend: the first NUMBER).");
        for (int p = 0; p < 4; p++) {
            dueText("weight " + p + " 5;weight " + p + " 5;", -28, AGAIN);
            dueText("weight " + p + " 5;weight 0" + p, -28, AGAIN);
        }
        for (int p = 0; p < 3; p++) {
            dueText("bend " + p + " 5;bend " + p + " 5;", -24, AGAIN);
        }
        dueText("weight 0 5;bend 0 5;weight 1 5;bend 1 5;", 4, 0);
    }

    static void p04_told_already_in_this_text_alone() {
        says("4 what is told already");
        OverABar x = told("rise 5;weight 1 6;");
        dueText(x, "rise 6;weight 1 7;foam", -28, NO_TOKEN);
        dueText(x, "rise 7;weight 1 8;", 2, 0);
        due("rule(7)", x.rule(7), 7);
        due("rule(1)", x.rule(1), 8);
    }

    static void p04_a_text_tells_all() {
        says("A text that is taken tells all (WAYS, JUMPERS stay).");
        OverABar x = crowd();
        x.end(0);
        dueText(x, "near 7; run 3;", 2, 0);
        int[] want = USUAL.clone();
        want[12] = 7;
        want[8] = 3;
        dueRow("rule", rules(x), want);
        due("of(0, 0)", x.of(0, 0), 4);
        due("of(0, 1)", x.of(0, 1), 2);
        due("at(0, 3, 3, 1)", x.at(0, 3, 3, 1), -4);
        due("of(3, 0)", x.of(3, 0), 2);
        dueRow("WAY of JUMPER", held(x), 0, 3, 3, 5, 0);
        due("count(5)", x.count(5), 18);
        due("torn()", x.torn(), INDEX);
    }

    // ---- 5: fault

    static void p05_of_the_latest_text() {
        says("The FAULT of the latest text();");
        OverABar x = new OverABar();
        String[] texts = {"$", "rise", "rise 99;", "rise 5;rise 5;"};
        for (int i = 0; i < texts.length; i++) {
            Bench.tell(x, texts[i]);
            due("fault()", x.fault(), i + 1);
            due("fault() again", x.fault(), i + 1);
            x.feed(0);
            x.end(0);
            x.end(-1);
            x.film(0, 0, BYTES, 0, 2, 1);
            due("fault() behind other calls", x.fault(), i + 1);
        }
    }

    static void p05_0() {
        says("0.");
        OverABar x = new OverABar();
        due("fault() ahead of text()", x.fault(), 0);
        Bench.tell(x, "rise");
        due("fault()", x.fault(), STANDS);
        Bench.tell(x, "rise 5;");
        due("fault() behind a text that is taken", x.fault(), 0);
        Bench.tell(x, "rise");
        x.text();
        due("fault() behind a text of nothing", x.fault(), 0);
    }

    // ---- 6: rule

    static void p06_what_holds() {
        says("What holds: 0 to 3 WEIGHTS, 4 to 6 BEND, 7 rise, 8 run, 9 fall, 10 mark, 11 stand, 12 near, 13 quick, "
            + "14 feet, 15 pit, 16 habit, 17 seen.");
        OverABar x = told("weight 0 1;weight 1 2;weight 2 3;weight 3 4;bend 0 5;bend 1 6;bend 2 7;rise 8;run 9;fall 1;"
            + "mark 11;stand 12;near 3;quick 14;feet 2;pit 1;habit 17;seen 4;");
        dueRow("rule", rules(x), 1, 2, 3, 4, 5, 6, 7, 8, 9, 1, 11, 12, 3, 14, 2, 1, 17, 4);
        tells("rule(0)", y -> y.rule(0));
        tells("rule(17)", y -> y.rule(17));
    }

    static void p06_bad() {
        says("BAD.");
        for (int what : new int[] {-1, 18, MIN, MAX}) {
            refused("rule(" + what + ")", x -> x.rule(what), BAD);
        }
    }
}
