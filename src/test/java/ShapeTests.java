import com.sun.source.tree.ClassTree;
import com.sun.source.tree.CompilationUnitTree;
import com.sun.source.tree.MethodInvocationTree;
import com.sun.source.tree.MethodTree;
import com.sun.source.tree.NewArrayTree;
import com.sun.source.tree.NewClassTree;
import com.sun.source.tree.Tree;
import com.sun.source.util.JavacTask;
import com.sun.source.util.TreePathScanner;
import com.sun.source.util.Trees;
import java.io.IOException;
import java.nio.file.Path;
import java.util.ArrayList;
import java.util.List;
import java.util.Map;
import java.util.Set;
import java.util.TreeMap;
import java.util.TreeSet;
import javax.lang.model.element.Element;
import javax.tools.JavaCompiler;
import javax.tools.JavaFileObject;
import javax.tools.StandardJavaFileManager;
import javax.tools.ToolProvider;

/** Those rules of LANGUAGE.md that show only in the tree of the code: which calls a method makes, and what it makes. */
public final class ShapeTests {
    private static final int MOST_DEEP = 8;
    private static final int MOST_LINES = 60;
    /** The part of rule 4 that the class uses. */
    private static final Set<String> LIBRARY = Set.of("java.lang.Math.max", "java.lang.Math.min",
        "java.lang.Math.abs", "java.lang.String.length", "java.lang.String.charAt");

    private static final Check check = new Check();
    private static final Map<String, Set<String>> calls = new TreeMap<>();

    public static void main(String[] args) throws IOException {
        JavaCompiler compiler = ToolProvider.getSystemJavaCompiler();
        try (StandardJavaFileManager files = compiler.getStandardFileManager(null, null, null)) {
            Iterable<? extends JavaFileObject> sources =
                files.getJavaFileObjects(Path.of("src/main/java/DredgePond.java"));
            JavacTask task = (JavacTask) compiler.getTask(null, files, null, List.of("-proc:none"), null, sources);
            Iterable<? extends CompilationUnitTree> units = task.parse();
            task.analyze();
            for (CompilationUnitTree unit : units) {
                new Walk(Trees.instance(task), unit).scan(unit, null);
            }
        }
        check.due("methods were found", calls.size() > 60, true);
        for (String method : calls.keySet()) {
            List<String> chain = deepest(method, new ArrayList<>());
            check.due("rule 11, calls go at most eight deep: " + chain, chain.size() <= MOST_DEEP, true);
        }
        check.close();
    }

    /** The longest chain of calls from a method on. */
    private static List<String> deepest(String method, List<String> open) {
        List<String> longest = new ArrayList<>();
        if (open.contains(method)) {
            check.due("no recursion: " + open + " " + method, 1, 0);
            return longest;
        }
        open.add(method);
        for (String called : calls.getOrDefault(method, Set.of())) {
            List<String> chain = deepest(called, open);
            if (chain.size() > longest.size()) {
                longest = chain;
            }
        }
        open.remove(open.size() - 1);
        longest.add(0, method);
        return longest;
    }

    private static final class Walk extends TreePathScanner<Void, Void> {
        private final Trees trees;
        private final CompilationUnitTree unit;
        private String inside = "";

        Walk(Trees trees, CompilationUnitTree unit) {
            this.trees = trees;
            this.unit = unit;
        }

        private Element here() {
            return trees.getElement(getCurrentPath());
        }

        private static String named(Element method) {
            return method.getEnclosingElement() + "." + method.getSimpleName();
        }

        private long line(long at) {
            return unit.getLineMap().getLineNumber(at);
        }

        @Override
        public Void visitMethod(MethodTree method, Void none) {
            String outside = inside;
            inside = named(here());
            calls.computeIfAbsent(inside, name -> new TreeSet<>());
            // a constructor that the compiler adds has no end in the text
            long end = trees.getSourcePositions().getEndPosition(unit, method);
            long lines = end < 0 ? 0 : line(end) - line(trees.getSourcePositions().getStartPosition(unit, method));
            check.due("rule 11, methods stay short: " + inside, lines <= MOST_LINES, true);
            super.visitMethod(method, none);
            inside = outside;
            return null;
        }

        @Override
        public Void visitMethodInvocation(MethodInvocationTree call, Void none) {
            String called = named(here());
            if (!called.startsWith("DredgePond")) {
                boolean ofTheMachine = called.equals("java.lang.Object.<init>");
                check.due("rule 4, the library: " + called, ofTheMachine || LIBRARY.contains(called), true);
            } else if (calls.containsKey(inside)) {
                calls.get(inside).add(called);
            }
            return super.visitMethodInvocation(call, none);
        }

        @Override
        public Void visitNewClass(NewClassTree made, Void none) {
            madeWithTheObject(made);
            return super.visitNewClass(made, none);
        }

        @Override
        public Void visitNewArray(NewArrayTree made, Void none) {
            madeWithTheObject(made);
            return super.visitNewArray(made, none);
        }

        /** All calls of a run live in one room: nothing is made but by constructors and fields. */
        private void madeWithTheObject(Tree made) {
            boolean field = inside.isEmpty();
            check.due("made once an object, in " + inside + ": " + made, field || inside.endsWith(".<init>"), true);
        }

        @Override
        public Void visitClass(ClassTree one, Void none) {
            String outside = inside;
            inside = "";
            super.visitClass(one, none);
            inside = outside;
            return null;
        }
    }
}
