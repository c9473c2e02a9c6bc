import java.io.IOException;
import java.nio.charset.StandardCharsets;
import java.nio.file.Files;
import java.nio.file.Path;
import java.util.ArrayList;
import java.util.List;
import java.util.regex.Matcher;
import java.util.regex.Pattern;

/** The document's words, by promise and under its terms, and which of them a test has said. */
final class Sentences {
    private static final int PROMISES = 40;
    /** What is no sentence: marks between the parts, and which group a call is of. */
    private static final String NO_SENTENCE = "={8} \\d|```(text)?|Ahead of the calls [^.]*[.]";

    /** By promise; 0: what the document is of, and the terms. */
    private final String[] texts = new String[PROMISES + 1];
    private final boolean[][] marked = new boolean[PROMISES + 1][];

    Sentences(Path document) throws IOException {
        String all = Files.readString(document, StandardCharsets.UTF_8).replaceAll("\\s+", " ");
        String life = between(all, "An object is used for at most", "## The public face");
        texts[0] = (life + between(all, "## Terms", "## Promise 1:").substring("## Terms".length()))
            .replaceAll(NO_SENTENCE, " ").replaceAll("\\s+", " ");
        for (int n = 1; n <= PROMISES; n++) {
            String next = n < PROMISES ? "## Promise " + (n + 1) + ":" : "## Not promised";
            String whole = between(all, "## Promise " + n + ":", next);
            texts[n] = whole.substring(whole.indexOf("`: ") + 3);
        }
        for (int n = 0; n <= PROMISES; n++) {
            marked[n] = new boolean[texts[n].length()];
        }
    }

    private static String between(String all, String first, String next) {
        int from = all.indexOf(first);
        int to = all.indexOf(next, from);
        if (from < 0 || to < 0) {
            throw new IllegalStateException("the document has no '" + first + "' ahead of '" + next + "'");
        }
        return all.substring(from, to);
    }

    /** Whether the words stand under the promise or, if not, under the terms. */
    boolean mark(int promise, String words) {
        return markIn(promise, words) || markIn(0, words);
    }

    private boolean markIn(int n, String words) {
        Matcher m = Pattern.compile("(?<![A-Za-z0-9])" + Pattern.quote(words) + "(?![A-Za-z0-9])").matcher(texts[n]);
        boolean found = false;
        while (m.find()) {
            found = true;
            for (int i = m.start(); i < m.end(); i++) {
                marked[n][i] = true;
            }
        }
        return found;
    }

    /** The words that no test has said. */
    List<String> unsaid() {
        List<String> rest = new ArrayList<>();
        for (int n = 0; n <= PROMISES; n++) {
            StringBuilder words = new StringBuilder();
            for (int i = 0; i < texts[n].length(); i++) {
                words.append(marked[n][i] ? '\n' : texts[n].charAt(i));
            }
            for (String part : words.toString().split("\n+")) {
                if (part.matches(".*[A-Za-z0-9].*")) {
                    rest.add((n == 0 ? "terms: " : "promise " + n + ": ") + part.trim());
                }
            }
        }
        return rest;
    }
}
