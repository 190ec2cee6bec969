import com.sun.source.tree.CompilationUnitTree;
import com.sun.source.tree.MethodInvocationTree;
import com.sun.source.tree.MethodTree;
import com.sun.source.tree.NewClassTree;
import com.sun.source.util.JavacTask;
import com.sun.source.util.TreePathScanner;
import com.sun.source.util.Trees;
import java.io.IOException;
import java.nio.file.Path;
import java.util.ArrayDeque;
import java.util.Deque;
import java.util.HashMap;
import java.util.LinkedHashMap;
import java.util.LinkedHashSet;
import java.util.List;
import java.util.Map;
import java.util.Set;
import javax.lang.model.element.Element;
import javax.tools.JavaCompiler;
import javax.tools.StandardJavaFileManager;
import javax.tools.ToolProvider;

/** Rules 8 and 11 of LANGUAGE.md: how long methods are, what they take, how deep their calls go. */
public final class ShapeTest {
    private static final int MOST_LINES = 60;
    private static final int MOST_PARAMETERS = 7;
    private static final int MOST_DEEP = 8;
    /** The methods that may call themselves; each has a guard on its depth. */
    private static final Set<String> RECURSIVE = Set.of("DayBench.quarrelWith", "DayBench.Search.takeSpans");

    private final Map<String, Set<String>> calls = new LinkedHashMap<>();
    private final Map<String, Integer> depths = new HashMap<>();
    private final Deque<String> open = new ArrayDeque<>();

    public static void main(String[] args) throws IOException {
        ShapeTest test = new ShapeTest();
        test.read(Path.of("src/main/java/DayBench.java"));
        Check.due("methods were found", test.calls.size() > 50, true);
        for (String method : test.calls.keySet()) {
            Check.due(method + " goes at most eight deep: " + test.depth(method),
                test.depth(method) <= MOST_DEEP, true);
            Check.due(method + " calls itself", test.calls.get(method).contains(method), RECURSIVE.contains(method));
        }
        Check.end();
    }

    private void read(Path source) throws IOException {
        JavaCompiler compiler = ToolProvider.getSystemJavaCompiler();
        try (StandardJavaFileManager files = compiler.getStandardFileManager(null, null, null)) {
            JavacTask task = (JavacTask) compiler.getTask(null, files, null, List.of("-proc:none"), null,
                files.getJavaFileObjects(source));
            Iterable<? extends CompilationUnitTree> units = task.parse();
            task.analyze();
            for (CompilationUnitTree unit : units) {
                new Reader(Trees.instance(task), unit).scan(unit, null);
            }
        }
    }

    private static String nameOf(Element method) {
        String name = method.getEnclosingElement() + "." + method.getSimpleName();
        return name.replace("java.lang.", "");
    }

    /** How many methods stand open at most, the library's too; a method's call of itself is recursion. */
    private int depth(String method) {
        Integer known = depths.get(method);
        if (known != null) {
            return known;
        }
        Check.due("a circle of calls: " + open, open.contains(method), false);
        open.push(method);
        int most = 0;
        for (String called : calls.getOrDefault(method, Set.of())) {
            most = open.contains(called) ? most : Math.max(most, depth(called));
        }
        open.pop();
        depths.put(method, most + 1);
        return most + 1;
    }

    private final class Reader extends TreePathScanner<Void, Void> {
        private final Trees trees;
        private final CompilationUnitTree unit;
        private String method;

        Reader(Trees trees, CompilationUnitTree unit) {
            this.trees = trees;
            this.unit = unit;
        }

        @Override
        public Void visitMethod(MethodTree tree, Void nothing) {
            String around = method;
            method = nameOf(trees.getElement(getCurrentPath()));
            Check.due(method + " is the only one of its name", calls.containsKey(method), false);
            calls.put(method, new LinkedHashSet<>());
            Check.due(method + " takes at most seven", tree.getParameters().size() <= MOST_PARAMETERS, true);
            Check.due(method + " is short", linesOf(tree) <= MOST_LINES, true);
            super.visitMethod(tree, nothing);
            method = around;
            return null;
        }

        private long linesOf(MethodTree tree) {
            long from = trees.getSourcePositions().getStartPosition(unit, tree);
            long to = trees.getSourcePositions().getEndPosition(unit, tree);
            return unit.getLineMap().getLineNumber(Math.max(from, to)) - unit.getLineMap().getLineNumber(from) + 1;
        }

        @Override
        public Void visitMethodInvocation(MethodInvocationTree tree, Void nothing) {
            note(trees.getElement(getCurrentPath()));
            return super.visitMethodInvocation(tree, nothing);
        }

        @Override
        public Void visitNewClass(NewClassTree tree, Void nothing) {
            note(trees.getElement(getCurrentPath()));
            return super.visitNewClass(tree, nothing);
        }

        private void note(Element called) {
            if (method != null && called != null && !nameOf(called).equals("Object.<init>")) {
                calls.get(method).add(nameOf(called));
            }
        }
    }
}
