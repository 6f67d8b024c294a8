import com.sun.source.tree.ClassTree;
import com.sun.source.tree.CompilationUnitTree;
import com.sun.source.tree.LineMap;
import com.sun.source.tree.MethodInvocationTree;
import com.sun.source.tree.MethodTree;
import com.sun.source.tree.NewClassTree;
import com.sun.source.tree.Tree;
import com.sun.source.tree.VariableTree;
import com.sun.source.util.JavacTask;
import com.sun.source.util.SourcePositions;
import com.sun.source.util.TreePath;
import com.sun.source.util.TreePathScanner;
import com.sun.source.util.Trees;
import java.io.File;
import java.io.IOException;
import java.util.ArrayDeque;
import java.util.ArrayList;
import java.util.Deque;
import java.util.HashMap;
import java.util.HashSet;
import java.util.LinkedHashMap;
import java.util.LinkedHashSet;
import java.util.List;
import java.util.Map;
import java.util.Set;
import javax.lang.model.element.Element;
import javax.lang.model.element.Modifier;
import javax.tools.JavaCompiler;
import javax.tools.JavaFileObject;
import javax.tools.StandardJavaFileManager;
import javax.tools.ToolProvider;

/** Rule 11 of LANGUAGE.md, read off the source by the compiler's own tree: the runs of calls can't show it. */
public final class RuleEleven {
    private static final String SOURCE = "src/main/java/IceTrade.java";
    private static final int MOST_DEEP = 8;
    private static final int MOST_PARAMETERS = 7;
    private static final int MOST_LINES = 60;
    private static final int MOST_CLASSES = 12;
    private static final int MOST_FIELDS = 20;

    private static int wrong;

    private RuleEleven() {
    }

    public static void main(String[] args) throws IOException {
        testOfTheDepth();
        Calls program = read(new File(SOURCE));
        for (Element method : program.publicMethods) {
            List<String> road = program.longestRoadFrom(method);
            expectAtMost(MOST_DEEP, road.size(), "calls from " + method + ": " + road);
        }
        for (Map.Entry<Element, Integer> m : program.parameters.entrySet()) {
            expectAtMost(MOST_PARAMETERS, m.getValue(), "parameters of " + m.getKey());
        }
        for (Map.Entry<Element, Integer> m : program.lines.entrySet()) {
            expectAtMost(MOST_LINES, m.getValue(), "lines of " + m.getKey());
        }
        for (Map.Entry<Element, Integer> c : program.fields.entrySet()) {
            expectAtMost(MOST_FIELDS, c.getValue(), "fields of " + c.getKey());
        }
        expectAtMost(MOST_CLASSES, program.fields.size(), "classes");
        if (program.publicMethods.size() < 30) {
            complain("only " + program.publicMethods.size() + " public methods were found in " + SOURCE);
        }
        if (wrong > 0) {
            System.exit(1);
        }
        System.out.println("rule 11 holds");
    }

    /** A made-up graph, so that a depth that is always too small would be seen. */
    private static void testOfTheDepth() {
        Map<String, Set<String>> calls = new HashMap<>();
        calls.put("a", Set.of("b", "d"));
        calls.put("b", Set.of("b", "c"));
        calls.put("c", Set.of("a", "e"));
        calls.put("d", Set.of());
        List<String> road = longestRoad("a", calls, new HashSet<>());
        if (!road.equals(List.of("b", "c", "e"))) {
            complain("the longest road from a is b, c, e, not " + road);
        }
    }

    private static void expectAtMost(int most, int found, String of) {
        if (found > most) {
            complain(found + " are more than " + most + ": " + of);
        }
    }

    private static void complain(String text) {
        wrong++;
        System.out.println(text);
    }

    private static Calls read(File source) throws IOException {
        JavaCompiler compiler = ToolProvider.getSystemJavaCompiler();
        try (StandardJavaFileManager files = compiler.getStandardFileManager(null, null, null)) {
            Iterable<? extends JavaFileObject> units = files.getJavaFileObjects(source);
            JavacTask task = (JavacTask) compiler.getTask(null, files, null, List.of("-proc:none"), null, units);
            Iterable<? extends CompilationUnitTree> trees = task.parse();
            task.analyze();
            Calls found = new Calls(Trees.instance(task));
            for (CompilationUnitTree unit : trees) {
                found.scan(unit, null);
            }
            return found;
        }
    }

    /** The longest chain of calls in which none stands twice: what comes again is a recursion and not counted. */
    private static <T> List<T> longestRoad(T from, Map<T, Set<T>> calls, Set<T> open) {
        List<T> longest = List.of();
        open.add(from);
        for (T called : calls.getOrDefault(from, Set.of())) {
            if (!open.contains(called)) {
                List<T> road = new ArrayList<>(List.of(called));
                road.addAll(longestRoad(called, calls, open));
                longest = road.size() > longest.size() ? road : longest;
            }
        }
        open.remove(from);
        return longest;
    }

    /** Who calls whom; calls of the library are counted as one call deep. */
    private static final class Calls extends TreePathScanner<Void, Void> {
        final List<Element> publicMethods = new ArrayList<>();
        final Map<Element, Integer> parameters = new LinkedHashMap<>();
        final Map<Element, Integer> lines = new LinkedHashMap<>();
        final Map<Element, Integer> fields = new LinkedHashMap<>();
        private final Map<Element, Set<Element>> called = new LinkedHashMap<>();
        private final Deque<Element> within = new ArrayDeque<>();
        private final Trees trees;

        Calls(Trees trees) {
            this.trees = trees;
        }

        List<String> longestRoadFrom(Element method) {
            List<String> names = new ArrayList<>();
            for (Element e : longestRoad(method, called, new HashSet<>())) {
                names.add(e.getEnclosingElement().getSimpleName() + "." + e.getSimpleName());
            }
            return names;
        }

        @Override
        public Void visitClass(ClassTree tree, Void none) {
            int own = 0;
            for (Tree member : tree.getMembers()) {
                boolean field = member instanceof VariableTree;
                if (field && !elementOf(member).getModifiers().contains(Modifier.STATIC)) {
                    own++;
                }
            }
            fields.put(trees.getElement(getCurrentPath()), own);
            return super.visitClass(tree, none);
        }

        @Override
        public Void visitMethod(MethodTree tree, Void none) {
            Element method = trees.getElement(getCurrentPath());
            parameters.put(method, tree.getParameters().size());
            lines.put(method, linesOf(tree));
            if (method.getModifiers().contains(Modifier.PUBLIC)) {
                publicMethods.add(method);
            }
            within.push(method);
            super.visitMethod(tree, none);
            within.pop();
            return null;
        }

        @Override
        public Void visitMethodInvocation(MethodInvocationTree tree, Void none) {
            note(trees.getElement(getCurrentPath()));
            return super.visitMethodInvocation(tree, none);
        }

        @Override
        public Void visitNewClass(NewClassTree tree, Void none) {
            note(trees.getElement(getCurrentPath()));
            return super.visitNewClass(tree, none);
        }

        private void note(Element callee) {
            if (!within.isEmpty() && callee != null) {
                called.computeIfAbsent(within.peek(), m -> new LinkedHashSet<>()).add(callee);
            }
        }

        private Element elementOf(Tree member) {
            return trees.getElement(new TreePath(getCurrentPath(), member));
        }

        private int linesOf(Tree tree) {
            CompilationUnitTree unit = getCurrentPath().getCompilationUnit();
            SourcePositions positions = trees.getSourcePositions();
            LineMap map = unit.getLineMap();
            long end = positions.getEndPosition(unit, tree);
            if (end < 0) {
                return 0;
            }
            long first = map.getLineNumber(positions.getStartPosition(unit, tree));
            return (int) (map.getLineNumber(end) - first + 1);
        }
    }
}
