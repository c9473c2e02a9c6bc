import java.io.IOException;
import java.lang.management.ManagementFactory;
import java.lang.reflect.Constructor;
import java.lang.reflect.Field;
import java.lang.reflect.Method;
import java.lang.reflect.Modifier;
import java.nio.charset.StandardCharsets;
import java.nio.file.Files;
import java.nio.file.Path;
import java.util.Set;
import java.util.TreeSet;
import java.util.regex.Matcher;
import java.util.regex.Pattern;

/** The public face, what LANGUAGE.md asks and a program can see, and that calls make few objects or none. */
public final class LanguageTest {
    private static final String SOURCE = "src/main/java/OverABar.java";
    private static final String FACE = "feed(long) end(int) text() fault() rule(int) way(int,int,int) "
        + "put(int,int,int,int,int) at(int,int,int,int) of(int,int) copy(int,int) place(int,int,int,int) "
        + "near(int,int,int) high(int) lowest(int) under(int) order(int) barred(int) pits(int) worth(int,int) "
        + "better(int) climb(int,int) around(int,int) valley(int,int,int) best(int) suits(int,int) "
        + "pays(int,int,int,int) jumper(int) takes(int,int) years(int) who(int) all() odd(int,int,int) "
        + "odds(int,int,int,int,int) asks(int,int,int,int) sheet(int,int,int) lay(int,int,int) "
        + "film(int,int,int,int,int,int) torn() count(int)";
    /** Rule 4, as far as calls by a name with a capital go: the library, and texts that are constants. */
    private static final String LISTED = "(Math|Integer|Long)[.](?!\\w*Exact$)\\w+|System[.]arraycopy"
        + "|Arrays[.](copyOf|copyOfRange|fill)|List[.]of"
        + "|[A-Z][A-Z0-9_]+[.](length|charAt|isEmpty|equals|indexOf|substring|toCharArray|clone)";
    private static final int MOST_LINES = 60, MOST_PARAMETERS = 7, MOST_FIELDS = 20, MOST_CLASSES = 12;
    /** What the one room holds, in bytes, and how many calls a run has. */
    private static final long ROOM = 4 * 7_300_000L;
    private static final int RUN = 512;

    private static int wrong;

    public static void main(String[] args) throws IOException {
        face();
        for (Class<?> c : OverABar.class.getDeclaredClasses()) {
            expect(Modifier.isStatic(c.getModifiers()), c + " is not static");
            sizes(c);
        }
        sizes(OverABar.class);
        expect(OverABar.class.getDeclaredClasses().length < MOST_CLASSES, "too many classes");
        source(Files.readString(Path.of(SOURCE), StandardCharsets.ISO_8859_1));
        room();
        System.out.println(wrong == 0 ? "LanguageTest: all is as asked" : "LanguageTest: " + wrong + " are not as asked");
        System.exit(wrong == 0 ? 0 : 1);
    }

    private static void expect(boolean holds, String fault) {
        if (!holds) {
            wrong++;
            System.out.println(fault);
        }
    }

    private static void face() {
        Set<String> want = new TreeSet<>(Set.of(FACE.split(" ")));
        Set<String> got = new TreeSet<>();
        int modifiers = OverABar.class.getModifiers();
        expect(Modifier.isPublic(modifiers) && Modifier.isFinal(modifiers), "the class is not public and final");
        Constructor<?>[] all = OverABar.class.getDeclaredConstructors();
        expect(all.length == 1 && Modifier.isPublic(all[0].getModifiers()) && all[0].getParameterCount() == 0,
            "the constructor is not the document's");
        for (Method m : OverABar.class.getDeclaredMethods()) {
            if (!Modifier.isPrivate(m.getModifiers())) {
                String call = m.toString();
                got.add(call.substring(call.indexOf("OverABar.") + 9));
                expect(m.getReturnType() == int.class && !Modifier.isStatic(m.getModifiers()), m + " is not as told");
            }
        }
        expect(got.equals(want), "the methods are not the document's: " + got);
        expect(OverABar.BAD == -1 && OverABar.STATE == -2 && OverABar.FULL == -3 && OverABar.NONE == -4, "constants");
        Set<String> constants = new TreeSet<>();
        for (Field f : OverABar.class.getDeclaredFields()) {
            if (!Modifier.isPrivate(f.getModifiers())) {
                constants.add(f.getName());
            }
        }
        expect(constants.equals(Set.of("BAD", "STATE", "FULL", "NONE")), "the constants are not the document's");
    }

    private static void sizes(Class<?> c) {
        int fields = 0;
        for (Field f : c.getDeclaredFields()) {
            if (Modifier.isStatic(f.getModifiers())) {
                expect(Modifier.isFinal(f.getModifiers()), f + " is static, but not final");
            } else {
                fields++;
            }
        }
        expect(fields <= MOST_FIELDS, c + " has " + fields + " fields");
        for (Method m : c.getDeclaredMethods()) {
            expect(m.getParameterCount() <= MOST_PARAMETERS, m + " takes too many");
            boolean isFace = c == OverABar.class && Modifier.isPublic(m.getModifiers());
            expect(isFace || !(" " + FACE).contains(" " + m.getName() + "("), m + " bears the name of a public one");
        }
    }

    private static void source(String text) {
        for (int i = 0; i < text.length(); i++) {
            expect(text.charAt(i) < 127, "a sign above 126 at " + i);
        }
        String code = text.replaceAll("(?s)/\\*.*?\\*/|//[^\\n]*", "");
        String words = "throw|try|catch|finally|synchronized|assert|package|native|volatile|protected|Object";
        Matcher word = Pattern.compile("\\b(" + words + ")\\b|::|^(?! *(case|default)\\b).*->", Pattern.MULTILINE)
            .matcher(code);
        while (word.find()) {
            expect(false, "the source has '" + word.group().trim() + "'");
        }
        Matcher used = Pattern.compile("\\bimport\\b.*").matcher(code);
        while (used.find()) {
            expect(used.group().matches("import java[.]util[.](ArrayList|List|Arrays|Iterator);"), used.group());
        }
        Matcher call = Pattern.compile("\\b([A-Z]\\w*)\\.[a-z]\\w*(?=\\()").matcher(code);
        while (call.find()) {
            expect(isOwn(call.group(1)) || call.group().matches(LISTED), "a call that is not listed: " + call.group());
        }
        int begun = 0;
        String[] lines = text.split("\n");
        for (int i = 0; i < lines.length; i++) {
            if (lines[i].matches("    (    )?[a-zA-Z].*\\) \\{")) {
                begun = i;
            }
            if (lines[i].matches("    (    )?\\}")) {
                expect(i - begun < MOST_LINES, "a method of more than " + MOST_LINES + " lines up to " + (i + 1));
                begun = i;
            }
        }
    }

    private static boolean isOwn(String name) {
        for (Class<?> c : OverABar.class.getDeclaredClasses()) {
            if (c.getSimpleName().equals(name)) {
                return true;
            }
        }
        return false;
    }

    /** All calls of a run live in one room: what a round makes, as often as a run can go round, must fit in. */
    private static void room() {
        com.sun.management.ThreadMXBean bean = (com.sun.management.ThreadMXBean) ManagementFactory.getThreadMXBean();
        OverABar x = new OverABar();
        long[] words = Bench.words("rise 21;run 6;mark 20;near 9;weight 2 7;");
        long answers = 0;
        long most = 0;
        for (int round = 0; round < 5; round++) {
            long before = bean.getThreadAllocatedBytes(Thread.currentThread().getId());
            answers += everyCall(x, words);
            most = bean.getThreadAllocatedBytes(Thread.currentThread().getId()) - before;
        }
        int rounds = RUN / FACE.split(" ").length + 1;
        expect(most * rounds < ROOM, "the calls of a round made objects of " + most + " bytes");
        expect(answers != 0, "no call answered");
    }

    private static long everyCall(OverABar x, long[] words) {
        long sum = 0;
        for (int i = 0; i < words.length; i++) {
            sum += x.feed(words[i]);
        }
        sum += x.end(40) + x.text() + x.fault() + x.rule(3) + x.way(0, 8, 1) + x.put(0, 3, 3, 1, -2) + x.at(0, 3, 3, 1);
        sum += x.of(0, 0) + x.copy(0, 1) + x.place(0, 3, 0, 0) + x.near(0, 3, 0) + x.high(0) + x.lowest(0) + x.under(0);
        sum += x.order(0) + x.barred(0) + x.pits(0) + x.worth(0, 3) + x.better(0) + x.climb(0, 40) + x.around(0, 1);
        sum += x.valley(0, 1, 0) + x.best(0) + x.suits(3, 20) + x.pays(50, 40, 3, 70) + x.jumper(0) + x.jumper(1);
        sum += x.takes(0, 1) + x.years(3) + x.who(1) + x.all() + x.odd(0, 0, 9) + x.odds(0, 9, 9, 3, 0);
        sum += x.asks(0, 20, 1, 9) + x.sheet(0, 2, 64) + x.lay(0, 3, 4) + x.film(2, 0, 2, 0, 8, 1) + x.torn();
        return sum + x.count(3);
    }
}
