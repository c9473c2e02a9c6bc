/** Promises 1 to 6: a new object and the text. */
public final class TextTest {
    private static final int[] USUAL = {5, 5, 5, 5, 9, 9, 9, 20, 5, 2, 15, 10, 2, 6, 1, 0, 0, 1};
    private static final String[] NAMES = {"weight 0", "weight 1", "weight 2", "weight 3", "bend 0", "bend 1",
        "bend 2", "rise", "run", "fall", "mark", "stand", "near", "quick", "feet", "pit", "habit", "seen"};
    private static final int[] LEAST = {1, 1, 1, 1, 1, 1, 1, 0, 1, 1, 0, 0, 0, 1, 1, 0, 0, 1};
    private static final int[] MOST = {20, 20, 20, 20, 18, 18, 18, 60, 20, 9, 99, 30, 9, 18, 2, 2, 20, 5};

    private static final Bench bench = new Bench();

    public static void main(String[] args) {
        newObject();
        feed();
        end();
        boundsOfEachLine();
        tokens();
        faults();
        bytesCutOff();
        textStays();
        fault();
        rule();
        bench.finish("TextTest");
    }

    private static void dueRules(int promise, OverABar x, int[] want) {
        for (int i = 0; i < want.length; i++) {
            bench.due(promise, "rule(" + i + ")", x.rule(i), want[i]);
        }
    }

    private static void newObject() {
        OverABar x = new OverABar();
        dueRules(1, x, USUAL);
        for (int w = 0; w < 6; w++) {
            bench.due(1, "of(" + w + ", 0)", x.of(w, 0), -1);
            bench.due(1, "who(" + w + ")", x.who(w), 0);
        }
        for (int k = 0; k < 4; k++) {
            bench.due(1, "lay(" + k + ", 0, 0)", x.lay(k, 0, 0), -11);
        }
        int[] counts = {0, 0, 0, 0, 0, -4};
        for (int i = 0; i < counts.length; i++) {
            bench.due(1, "count(" + i + ")", x.count(i), counts[i]);
        }
        bench.due(1, "fault()", x.fault(), 0);
        bench.due(1, "torn()", x.torn(), 0);
        bench.due(1, "best(0)", x.best(0), -4);
        bench.due(1, "all()", x.all(), -2);
    }

    private static void feed() {
        OverABar x = new OverABar();
        bench.due(2, "feed", x.feed(Bench.words("rise 7; ")[0]), 8);
        bench.due(2, "text()", x.text(), 1);
        bench.due(2, "rule(7)", x.rule(7), 7);
        for (int i = 1; i <= 25; i++) {
            bench.due(2, "feed " + i, x.feed(0x2020202020202020L), 8 * i);
        }
        bench.due(2, "feed past 200", x.feed(0), -3);
        bench.due(2, "count(4)", x.count(4), 200);
        x.end(193);
        bench.due(2, "feed to 201", x.feed(0), -3);
        x.end(192);
        bench.due(2, "feed to 200", x.feed(Bench.words("  run 9;")[0]), 200);
        bench.due(2, "text()", x.text(), 1);
        bench.due(2, "rule(8)", x.rule(8), 9);
        x.feed(-1L);
        bench.due(2, "text() of bytes 255", x.text(), -10);
        // bytes 32 + 256 i would be blanks, if bytes were not 0 to 255
        x.feed(0x20202020202020A0L);
        bench.due(2, "text() of byte 160", x.text(), -17);
        x.feed(Long.MIN_VALUE);
        bench.due(2, "text() of byte 128", x.text(), -10);
    }

    private static void end() {
        OverABar x = new OverABar();
        bench.due(3, "end(0)", x.end(0), 0);
        bench.due(3, "end(1)", x.end(1), -1);
        x.feed(Bench.words("rise 77;")[0]);
        bench.due(3, "end(9)", x.end(9), -1);
        bench.due(3, "end(-1)", x.end(-1), -1);
        bench.due(3, "end(min)", x.end(Integer.MIN_VALUE), -1);
        bench.due(3, "end(max)", x.end(Integer.MAX_VALUE), -1);
        bench.due(3, "count(4)", x.count(4), 8);
        bench.due(3, "end(8)", x.end(8), 8);
        bench.due(3, "end(6)", x.end(6), 8);
        bench.due(3, "count(4)", x.count(4), 6);
        x.feed(Bench.words(";       ")[0]);
        bench.due(3, "text()", x.text(), 1);
        bench.due(3, "rule(7)", x.rule(7), 7);
    }

    private static void boundsOfEachLine() {
        for (int i = 0; i < NAMES.length; i++) {
            OverABar x = new OverABar();
            int place = -10 - NAMES[i].length() - 1;
            dueText(x, NAMES[i] + " " + LEAST[i] + ";", 1, 0);
            bench.due(4, "rule of " + NAMES[i], x.rule(i), LEAST[i]);
            dueText(x, NAMES[i] + " " + MOST[i] + ";", 1, 0);
            int[] want = USUAL.clone();
            want[i] = MOST[i];
            dueRules(4, x, want);
            if (LEAST[i] > 0) {
                dueText(x, NAMES[i] + " " + (LEAST[i] - 1) + ";", place, 3);
            }
            if (MOST[i] < 99) {
                dueText(x, NAMES[i] + " " + (MOST[i] + 1) + ";", place, 3);
            }
            dueRules(4, x, want);
        }
    }

    private static void dueText(OverABar x, String text, int want, int fault) {
        Bench.lay(x, text);
        bench.due(4, "text() of '" + text + "'", x.text(), want);
        bench.due(5, "fault() of '" + text + "'", x.fault(), fault);
        bench.due(4, "count(4) behind text()", x.count(4), 0);
    }

    private static void dueText(String text, int want, int fault) {
        dueText(new OverABar(), text, want, fault);
    }

    private static void tokens() {
        dueText("", 0, 0);
        dueText("   ", 0, 0);
        dueText("rise5;run6;", 2, 0);
        dueText("  rise   5  ;  run 6 ;  ", 2, 0);
        dueText("rise 05;", 1, 0);
        dueText("weight 00 07;", 1, 0);
        dueText("weight0 7;", 1, 0);
        // one NUMBER, as long as may be
        dueText("weight 03;", -19, 2);
        dueText("seen 1;habit 1;pit 1;feet 1;quick 1;near 1;stand 1;mark 1;fall 1;run 1;rise 1;"
            + "bend 2 1;bend 1 1;bend 0 1;weight 3 1;weight 2 1;weight 1 1;weight 0 1;", 18, 0);
    }

    private static void faults() {
        dueText("rise 5\t;", -16, 1);
        dueText("Rise 5;", -10, 1);
        dueText("rise 5:", -16, 1);
        dueText("rise -5;", -15, 1);
        dueText("rises 5;", -10, 1);
        dueText("ris 5;", -10, 1);
        dueText("wise 5;", -10, 1);
        dueText("weightbend 0 5;", -10, 1);
        dueText("riserun 5;", -10, 1);
        dueText("weights 0 5;", -10, 1);
        dueText("rise 100;", -15, 1);
        dueText("rise 000;", -15, 1);
        dueText("100", -10, 1);
        dueText("rise 5 foam", -17, 1);
        dueText("rise 5 100", -17, 1);
        dueText("rise`5;", -14, 1);
        dueText("rise{5;", -14, 1);
        dueText("rise 5/;", -16, 1);

        dueText(";", -10, 2);
        dueText("rise 5;;", -17, 2);
        dueText(" 5;", -11, 2);
        dueText("99", -10, 2);
        dueText("rise", -14, 2);
        dueText("rise   ", -17, 2);
        dueText("rise ;", -15, 2);
        dueText("rise rise", -15, 2);
        dueText("rise 5 5;", -17, 2);
        dueText("rise 5 rise", -17, 2);
        dueText("rise 5", -16, 2);
        dueText("weight;", -16, 2);
        dueText("weight 1;", -18, 2);
        dueText("weight 1 1", -20, 2);
        dueText("bend rise", -15, 2);
        dueText("bend 1 bend", -17, 2);

        dueText("weight 4", -17, 3);
        dueText("bend 3 99", -15, 3);
        dueText("bend 2 0", -17, 3);
        dueText("run 0 100", -14, 3);

        dueText("rise 5;run 5;rise 99;", -23, 4);
        dueText("rise 5;rise", -17, 4);
        dueText("rise 5;rise $", -17, 4);
        dueText("weight 1 5;weight 1 99;", -28, 4);
        dueText("weight 1 5;weight 1", -28, 4);
        dueText("weight 1 5;weight 01 $", -28, 4);
        dueText("bend 0 5;bend 1 5;bend 0 5;", -33, 4);
        dueText("weight 1 5;weight 4 5;", -28, 3);
        dueText("weight 1 5;bend 1 5;weight 0 5;", 3, 0);
    }

    /** What end() cut off is not read, though it would make a TOKEN longer. */
    private static void bytesCutOff() {
        String[] texts = {"riserise", "rise 555", "rise 5;;"};
        int[] lengths = {4, 7, 7};
        int[] want = {-14, -17, 1};
        for (int i = 0; i < texts.length; i++) {
            OverABar x = new OverABar();
            x.feed(Bench.words(texts[i])[0]);
            x.end(lengths[i]);
            bench.due(4, "text() of '" + texts[i] + "' cut to " + lengths[i], x.text(), want[i]);
            bench.due(5, "fault()", x.fault(), want[i] < 0 ? 2 : 0);
        }
    }

    private static void textStays() {
        OverABar x = Bench.told("rise 30;weight 2 8;");
        x.way(0, 3, 2);
        x.jumper(4);
        int[] want = USUAL.clone();
        want[7] = 30;
        want[2] = 8;
        bench.due(4, "text() with a fault behind", Bench.tell(x, "rise 40;run 9;foam"), -24);
        dueRules(4, x, want);
        bench.due(4, "text() of one line", Bench.tell(x, "run 9;"), 1);
        want = USUAL.clone();
        want[8] = 9;
        dueRules(4, x, want);
        bench.due(4, "of(0, 0)", x.of(0, 0), 3);
        bench.due(4, "count(2)", x.count(2), 1);
        bench.due(4, "text() of nothing", x.text(), 0);
        dueRules(4, x, USUAL);
    }

    private static void fault() {
        OverABar x = new OverABar();
        Bench.tell(x, "foam;");
        bench.due(5, "fault()", x.fault(), 1);
        x.feed(0);
        x.end(0);
        bench.due(5, "fault() again", x.fault(), 1);
        Bench.tell(x, "run 1;");
        bench.due(5, "fault() behind a text that is taken", x.fault(), 0);
        Bench.tell(x, "run");
        bench.due(5, "fault()", x.fault(), 2);
        x.text();
        bench.due(5, "fault() behind an empty text", x.fault(), 0);
    }

    private static void rule() {
        OverABar x = Bench.told("weight 0 1;weight 1 2;weight 2 3;weight 3 4;bend 0 5;bend 1 6;bend 2 7;rise 8;run 9;"
            + "fall 1;mark 11;stand 12;near 3;quick 14;feet 2;pit 1;habit 17;seen 4;");
        dueRules(6, x, new int[] {1, 2, 3, 4, 5, 6, 7, 8, 9, 1, 11, 12, 3, 14, 2, 1, 17, 4});
        for (int what : new int[] {-1, 18, Integer.MIN_VALUE, Integer.MAX_VALUE}) {
            bench.due(6, "rule(" + what + ")", x.rule(what), -1);
        }
    }
}
