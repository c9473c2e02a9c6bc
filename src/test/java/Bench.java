import java.nio.charset.StandardCharsets;

/** What the tests share: counting answers that are not due, and telling a text. */
final class Bench {
    private int wrong;

    void due(int promise, String call, long got, long want) {
        if (got != want) {
            wrong++;
            System.out.println("promise " + promise + ": " + call + " answered " + got + ", due is " + want);
        }
    }

    void finish(String name) {
        if (wrong != 0) {
            System.out.println(name + ": " + wrong + " answers are not as due");
            System.exit(1);
        }
        System.out.println(name + ": all answers are as due");
    }

    /** The text as numbers for feed(), blanks behind it. */
    static long[] words(String text) {
        byte[] bytes = text.getBytes(StandardCharsets.ISO_8859_1);
        long[] words = new long[(bytes.length + 7) / 8];
        for (int i = 0; i < words.length * 8; i++) {
            int sign = i < bytes.length ? bytes[i] & 255 : 32;
            words[i / 8] = words[i / 8] << 8 | sign;
        }
        return words;
    }

    /** Puts a text on an empty THE TAPE. */
    static void lay(OverABar x, String text) {
        for (long word : words(text)) {
            x.feed(word);
        }
        x.end(text.length());
    }

    static int tell(OverABar x, String text) {
        lay(x, text);
        return x.text();
    }

    static OverABar told(String text) {
        OverABar x = new OverABar();
        if (tell(x, text) < 0) {
            throw new IllegalStateException("the test's own text is not taken: " + text);
        }
        return x;
    }
}
