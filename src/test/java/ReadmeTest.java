import java.io.File;
import java.io.IOException;
import java.lang.reflect.Method;
import java.lang.reflect.Modifier;
import java.net.URL;
import java.net.URLClassLoader;
import java.nio.charset.StandardCharsets;
import java.nio.file.Files;
import java.nio.file.Path;
import java.util.ArrayList;
import java.util.List;
import java.util.Map;
import java.util.Set;
import java.util.TreeMap;
import java.util.TreeSet;
import java.util.regex.Matcher;
import java.util.regex.Pattern;
import java.util.stream.Stream;
import javax.tools.JavaCompiler;
import javax.tools.ToolProvider;

/** What README.md shows of the use of the class compiles as it stands there, and answers as README.md says. */
public final class ReadmeTest {
    private static final Path README = Path.of("README.md");
    private static final Path TESTS = Path.of("src/test/java");
    /** A call and behind it the number that it answers. */
    private static final Pattern ANSWER = Pattern.compile("((?:x[.]|tell\\().*\\));\\s*// (-?\\d+)(?::.*)?");

    private static int wrong;
    private static int answers;

    public static void main(String[] args) throws Exception {
        String page = Files.readString(README, StandardCharsets.UTF_8);
        List<String> pieces = pieces(page);
        expect(!pieces.isEmpty(), "README.md shows no use of the class");
        compilesAndAnswers(pieces);
        namesEachCall(page);
        showsEachCall(pieces);
        namesEachTest(page);
        namesNoFileThatIsNone(page);
        System.out.println("ReadmeTest: " + answers + " answers, " + wrong + " faults");
        System.exit(wrong == 0 ? 0 : 1);
    }

    private static void expect(boolean holds, String fault) {
        if (!holds) {
            wrong++;
            System.out.println(fault);
        }
    }

    /** For the program that is made of the pieces. */
    public static void due(String call, int got, int want) {
        answers++;
        expect(got == want, "README.md: " + call + " answered " + got + ", README.md says " + want);
    }

    private static List<String> pieces(String page) {
        List<String> all = new ArrayList<>();
        Matcher m = Pattern.compile("(?sm)^```java\\n(.*?)^```").matcher(page);
        while (m.find()) {
            all.add(m.group(1));
        }
        return all;
    }

    private static void compilesAndAnswers(List<String> pieces) throws Exception {
        Path folder = Files.createTempDirectory("readme");
        try {
            StringBuilder members = new StringBuilder();
            StringBuilder asShown = new StringBuilder();
            StringBuilder asked = new StringBuilder();
            for (String piece : pieces) {
                if (piece.startsWith("static ")) {
                    members.append(piece);
                } else {
                    asShown.append(piece);
                    asked.append(asking(piece));
                }
            }
            compile(folder, "AsShown", members, asShown);
            if (compile(folder, "Asked", members, asked)) {
                run(folder, "Asked");
            }
        } finally {
            remove(folder);
        }
    }

    /** The piece, each call handed to due() with the answer that stands behind it. */
    private static String asking(String piece) {
        StringBuilder code = new StringBuilder();
        for (String line : piece.split("\n")) {
            Matcher m = ANSWER.matcher(line);
            if (m.matches()) {
                String call = m.group(1);
                code.append("ReadmeTest.due(\"").append(call.replace("\"", "\\\"")).append("\", ").append(call)
                    .append(", ").append(m.group(2)).append(");\n");
            } else {
                expect(line.matches("(OverABar )?x = new OverABar\\(\\);|"), "README.md says no answer of: " + line);
                code.append(line).append('\n');
            }
        }
        return code.toString();
    }

    private static boolean compile(Path folder, String name, CharSequence members, CharSequence lines)
            throws IOException {
        Path file = folder.resolve(name + ".java");
        Files.writeString(file, "public final class " + name + " {\n" + members
            + "public static void main(String[] args) {\n" + lines + "}\n}\n");
        JavaCompiler compiler = ToolProvider.getSystemJavaCompiler();
        int exit = compiler.run(null, null, null, "--release", "17", "-proc:none",
            "-cp", System.getProperty("java.class.path"), "-d", folder.toString(), file.toString());
        expect(exit == 0, "README.md: the pieces do not compile (" + name + ")");
        return exit == 0;
    }

    private static void run(Path folder, String name) throws Exception {
        URL[] where = {folder.toUri().toURL()};
        try (URLClassLoader loader = new URLClassLoader(where, ReadmeTest.class.getClassLoader())) {
            Method main = loader.loadClass(name).getMethod("main", String[].class);
            main.invoke(null, (Object) new String[0]);
        }
    }

    private static void remove(Path folder) throws IOException {
        try (Stream<Path> files = Files.list(folder)) {
            files.map(Path::toFile).forEach(File::delete);
        }
        Files.delete(folder);
    }

    private static Map<String, Integer> face() {
        Map<String, Integer> calls = new TreeMap<>();
        for (Method m : OverABar.class.getDeclaredMethods()) {
            if (Modifier.isPublic(m.getModifiers())) {
                calls.put(m.getName(), m.getParameterCount());
            }
        }
        return calls;
    }

    /** The list of all calls, each with as many arguments as it takes. */
    private static void namesEachCall(String page) {
        Map<String, Integer> listed = new TreeMap<>();
        Matcher m = Pattern.compile("(?m)^\\| \\d+ \\| `(\\w+)\\(([^)]*)\\)` \\|").matcher(page);
        while (m.find()) {
            listed.put(m.group(1), m.group(2).isEmpty() ? 0 : m.group(2).split(",").length);
        }
        expect(Integer.valueOf(0).equals(listed.remove("OverABar")), "README.md does not list the constructor");
        expect(listed.equals(face()), "README.md lists other calls: " + listed + ", the class has " + face());
    }

    private static void showsEachCall(List<String> pieces) {
        Set<String> unseen = new TreeSet<>(face().keySet());
        for (String piece : pieces) {
            unseen.removeIf(name -> piece.contains("x." + name + "("));
        }
        expect(unseen.isEmpty(), "README.md shows no use of " + unseen);
    }

    private static void namesEachTest(String page) throws IOException {
        try (Stream<Path> files = Files.list(TESTS)) {
            for (Path file : files.toList()) {
                String name = file.getFileName().toString().replace(".java", "");
                expect(!name.endsWith("Test") || page.contains("`" + name + "`"), "README.md does not name " + name);
            }
        }
    }

    private static void namesNoFileThatIsNone(String page) {
        Matcher m = Pattern.compile("`(\\w+Test|EdgesOf\\w+|PlainModel)`").matcher(page);
        while (m.find()) {
            expect(Files.exists(TESTS.resolve(m.group(1) + ".java")), "README.md names " + m.group(1));
        }
        Matcher path = Pattern.compile("(?<![\\w/])(src/main/java/\\w+[.]java|[.]ci/run|[.][.]/shared/[A-Z]+[.]md)")
            .matcher(page);
        while (path.find()) {
            expect(Files.exists(Path.of(path.group())), "README.md names " + path.group());
        }
    }
}
