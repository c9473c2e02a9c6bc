import com.sun.source.tree.BinaryTree;
import com.sun.source.tree.ClassTree;
import com.sun.source.tree.CompilationUnitTree;
import com.sun.source.tree.LiteralTree;
import com.sun.source.tree.MethodInvocationTree;
import com.sun.source.tree.MethodTree;
import com.sun.source.tree.NewClassTree;
import com.sun.source.tree.Tree;
import com.sun.source.tree.TypeCastTree;
import com.sun.source.tree.VariableTree;
import com.sun.source.util.JavacTask;
import com.sun.source.util.TreePath;
import com.sun.source.util.TreePathScanner;
import com.sun.source.util.Trees;
import java.io.IOException;
import java.nio.charset.StandardCharsets;
import java.nio.file.Files;
import java.nio.file.Path;
import java.util.ArrayList;
import java.util.LinkedHashMap;
import java.util.LinkedHashSet;
import java.util.List;
import java.util.Map;
import java.util.Set;
import javax.lang.model.element.Element;
import javax.lang.model.element.ElementKind;
import javax.lang.model.element.ExecutableElement;
import javax.lang.model.element.Modifier;
import javax.lang.model.element.VariableElement;
import javax.lang.model.type.TypeMirror;
import javax.tools.JavaCompiler;
import javax.tools.StandardJavaFileManager;
import javax.tools.ToolProvider;

/**
 * Rules of LANGUAGE.md that are seen only in what the compiler makes of the source. A test is called by its
 * rule and says the words it is of, which must stand in LANGUAGE.md.
 */
public final class SourceTest {
    private static final Path SOURCE = Path.of("src/main/java/OverABar.java");
    private static final Path LANGUAGE = Path.of("../shared/LANGUAGE.md");
    private static final int MOST_DEEP = 8;
    private static final String LISTED = "String[.](length|charAt|isEmpty|equals|indexOf|substring|toCharArray)"
        + "|StringBuilder[.](append|charAt|setCharAt|setLength|deleteCharAt|reverse|length|toString)"
        + "|(ArrayList|List)[.](add|get|set|remove|size|isEmpty|clear|of)"
        + "|(Integer|Long|Math)[.]\\w+(?<!Exact)|System[.]arraycopy|Arrays[.](copyOf|copyOfRange|fill)";

    private static final List<String> faults = new ArrayList<>();
    private static String rules;

    public static void main(String[] args) throws IOException {
        rules = Files.readString(LANGUAGE, StandardCharsets.UTF_8).replaceAll("\\s+", " ");
        Scan scan = Scan.of(SOURCE);
        rule04_library(scan);
        rule05_static_fields(scan);
        rule06_casts_and_texts(scan);
        rule10_joining_texts(scan);
        rule11_eight_deep(scan);
        for (String fault : faults) {
            System.out.println(fault);
        }
        System.out.println("SourceTest: " + faults.size() + " faults");
        System.exit(faults.isEmpty() ? 0 : 1);
    }

    private static void says(String words) {
        if (!rules.contains(words)) {
            faults.add("LANGUAGE.md has no such words: " + words);
        }
    }

    private static void rule04_library(Scan scan) {
        says("The library: only what stands here.");
        for (String call : scan.library) {
            if (!call.matches(LISTED)) {
                faults.add("rule 4: " + call + " is not listed");
            }
        }
    }

    private static void rule05_static_fields(Scan scan) {
        says("Static fields are final: constants of int, long, boolean, char or String, the constants of an enum, "
            + "and arrays of int, long, char or byte written out in their initialiser and never changed.");
        says("no static initialiser block");
        faults.addAll(scan.statics);
    }

    private static void rule06_casts_and_texts(Scan scan) {
        says("casts among your own classes are fine");
        says("never between two Strings or two Integers");
        faults.addAll(scan.casts);
    }

    private static void rule10_joining_texts(Scan scan) {
        says("joining texts by StringBuilder (not by +)");
        faults.addAll(scan.joins);
    }

    /** The calls that stand open at once, the document's call the first, the library's the last; each counts once. */
    private static void rule11_eight_deep(Scan scan) {
        says("calls that are no recursion go at most eight deep");
        for (Element e : scan.calls.keySet()) {
            List<Element> chain = scan.deepest(e, new LinkedHashSet<>());
            if (chain.size() > MOST_DEEP) {
                StringBuilder names = new StringBuilder();
                for (Element link : chain) {
                    names.append(' ').append(name(link));
                }
                faults.add("rule 11: " + chain.size() + " deep:" + names);
            }
        }
    }

    private static String name(Element e) {
        return e.getEnclosingElement().getSimpleName() + "." + e.getSimpleName();
    }

    /** What the source has of what the rules are of. */
    private static final class Scan extends TreePathScanner<Void, Element> {
        final Map<Element, Set<Element>> calls = new LinkedHashMap<>();
        final Set<String> library = new LinkedHashSet<>();
        final List<String> statics = new ArrayList<>();
        final List<String> casts = new ArrayList<>();
        final List<String> joins = new ArrayList<>();
        private final Trees trees;

        private Scan(Trees trees) {
            this.trees = trees;
        }

        static Scan of(Path source) throws IOException {
            JavaCompiler compiler = ToolProvider.getSystemJavaCompiler();
            try (StandardJavaFileManager files = compiler.getStandardFileManager(null, null, null)) {
                JavacTask task = (JavacTask) compiler.getTask(null, files, null, List.of("-proc:none"), null,
                    files.getJavaFileObjects(source));
                Iterable<? extends CompilationUnitTree> units = task.parse();
                task.analyze();
                Scan scan = new Scan(Trees.instance(task));
                for (CompilationUnitTree unit : units) {
                    scan.scan(unit, null);
                }
                return scan;
            }
        }

        private Element here() {
            return trees.getElement(getCurrentPath());
        }

        private TypeMirror typeOf(Tree tree) {
            return trees.getTypeMirror(new TreePath(getCurrentPath(), tree));
        }

        @Override
        public Void visitMethod(MethodTree tree, Element outer) {
            Element e = here();
            calls.putIfAbsent(e, new LinkedHashSet<>());
            return super.visitMethod(tree, e);
        }

        @Override
        public Void visitMethodInvocation(MethodInvocationTree tree, Element caller) {
            add(caller, here());
            return super.visitMethodInvocation(tree, caller);
        }

        @Override
        public Void visitNewClass(NewClassTree tree, Element caller) {
            add(caller, here());
            return super.visitNewClass(tree, caller);
        }

        private void add(Element caller, Element called) {
            // what a constructor does ahead of its own lines is the machine's
            if (!(called instanceof ExecutableElement) || name(called).equals("Object.<init>")) {
                return;
            }
            // a field's initialiser has no caller
            if (caller != null) {
                calls.computeIfAbsent(caller, any -> new LinkedHashSet<>()).add(called);
            }
            if (!isOwn(called.getEnclosingElement().asType()) && !called.getSimpleName().contentEquals("<init>")) {
                library.add(name(called));
            }
        }

        @Override
        public Void visitClass(ClassTree tree, Element outer) {
            for (Tree member : tree.getMembers()) {
                if (member.getKind() == Tree.Kind.BLOCK) {
                    statics.add("rule 5: a block in " + tree.getSimpleName());
                }
                if (member instanceof VariableTree v && v.getModifiers().getFlags().contains(Modifier.STATIC)) {
                    checkStatic(v);
                }
            }
            return super.visitClass(tree, outer);
        }

        private static boolean isOwn(TypeMirror type) {
            return type.toString().startsWith("OverABar");
        }

        private void checkStatic(VariableTree v) {
            boolean isFinal = v.getModifiers().getFlags().contains(Modifier.FINAL);
            String type = v.getType().toString();
            VariableElement e = (VariableElement) trees.getElement(new TreePath(getCurrentPath(), v));
            boolean isConstant = type.matches("int|long|boolean|char|String") && e.getConstantValue() != null;
            boolean isRow = type.matches("(int|long|char|byte)\\[\\]") && v.getInitializer() != null
                && v.getInitializer().getKind() == Tree.Kind.NEW_ARRAY;
            // rule 12 has values() of an enum kept so
            boolean isOfEnum = e.getKind() == ElementKind.ENUM_CONSTANT || v.toString().endsWith(".values()");
            if (!isFinal || !(isConstant || isRow || isOfEnum)) {
                statics.add("rule 5: " + v);
            }
        }

        @Override
        public Void visitTypeCast(TypeCastTree tree, Element caller) {
            TypeMirror type = typeOf(tree.getType());
            if (!type.getKind().isPrimitive() && !isOwn(type)) {
                casts.add("rule 6: a cast to what is neither a number nor of an own class: " + tree);
            }
            return super.visitTypeCast(tree, caller);
        }

        @Override
        public Void visitBinary(BinaryTree tree, Element caller) {
            boolean isText = isText(tree.getLeftOperand()) || isText(tree.getRightOperand());
            if (isText && tree.getKind() == Tree.Kind.PLUS) {
                joins.add("rule 10: texts joined by +: " + tree);
            }
            if (isText && (tree.getKind() == Tree.Kind.EQUAL_TO || tree.getKind() == Tree.Kind.NOT_EQUAL_TO)) {
                casts.add("rule 6: texts compared by == or !=: " + tree);
            }
            return super.visitBinary(tree, caller);
        }

        private boolean isText(Tree tree) {
            return tree instanceof LiteralTree literal ? literal.getValue() instanceof String
                : typeOf(tree) != null && typeOf(tree).toString().equals("java.lang.String");
        }

        /** The longest chain of calls that begins with this one, behind those that stand open. */
        List<Element> deepest(Element first, Set<Element> open) {
            List<Element> longest = List.of();
            open.add(first);
            for (Element next : calls.getOrDefault(first, Set.of())) {
                if (!open.contains(next)) {
                    List<Element> chain = deepest(next, open);
                    longest = chain.size() > longest.size() ? chain : longest;
                }
            }
            open.remove(first);
            List<Element> whole = new ArrayList<>(List.of(first));
            whole.addAll(longest);
            return whole;
        }
    }
}
