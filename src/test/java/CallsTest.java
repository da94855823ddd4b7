import com.sun.source.tree.CompilationUnitTree;
import com.sun.source.tree.MethodInvocationTree;
import com.sun.source.tree.MethodTree;
import com.sun.source.tree.NewClassTree;
import com.sun.source.util.JavacTask;
import com.sun.source.util.TreePath;
import com.sun.source.util.TreePathScanner;
import com.sun.source.util.Trees;
import java.io.IOException;
import java.nio.file.Path;
import java.util.ArrayDeque;
import java.util.Deque;
import java.util.List;
import java.util.Map;
import java.util.Set;
import java.util.TreeMap;
import java.util.TreeSet;
import javax.lang.model.element.Element;
import javax.tools.JavaCompiler;
import javax.tools.StandardJavaFileManager;
import javax.tools.ToolProvider;

/** Rule 11 of LANGUAGE.md, "calls that are no recursion go at most eight deep", read from the program by javac itself. */
public final class CallsTest {
    private static final int DEEPEST = 8;

    private final Check check = new Check();
    private final Map<String, Set<String>> calls = new TreeMap<>();

    private CallsTest() { }

    public static void main(String[] args) throws IOException {
        new CallsTest().run();
    }

    private void run() throws IOException {
        check.about("rule 11");
        readCalls();
        check.holds("some hundred methods are read, not " + calls.size(), calls.size() > 80);
        int deepest = 0;
        for (String method : calls.keySet()) {
            deepest = Math.max(deepest, depthOf(method, new ArrayDeque<>()));
        }
        System.out.println("calls go " + deepest + " deep");
        check.holds("calls go some deep", deepest > 3);
        check.end();
    }

    private void readCalls() throws IOException {
        JavaCompiler compiler = ToolProvider.getSystemJavaCompiler();
        try (StandardJavaFileManager files = compiler.getStandardFileManager(null, null, null)) {
            JavacTask task = (JavacTask) compiler.getTask(null, files, null, List.of("-proc:none"), null,
                files.getJavaFileObjects(Path.of("src/main/java/FloodDiary.java")));
            Iterable<? extends CompilationUnitTree> units = task.parse();
            task.analyze();
            for (CompilationUnitTree unit : units) {
                new Reader(Trees.instance(task)).scan(new TreePath(unit), null);
            }
        }
    }

    /** How many calls stand open at once at most below and with this one; a recursion is told as a fault. */
    private int depthOf(String method, Deque<String> open) {
        check.holds(method + " does not call itself, by " + open, !open.contains(method));
        check.holds("calls go at most eight deep, not " + open + " and " + method, open.size() < DEEPEST);
        if (open.contains(method) || open.size() > DEEPEST) {
            return 0;
        }
        open.addLast(method);
        int deepest = 0;
        for (String called : calls.get(method)) {
            deepest = Math.max(deepest, calls.containsKey(called) ? depthOf(called, open) : 0);
        }
        open.removeLast();
        return deepest + 1;
    }

    private final class Reader extends TreePathScanner<Void, Void> {
        private final Trees trees;
        private String method = "";

        Reader(Trees trees) {
            this.trees = trees;
        }

        private String nameOf(Element element) {
            return element.getEnclosingElement() + "." + element;
        }

        @Override
        public Void visitMethod(MethodTree tree, Void none) {
            method = nameOf(trees.getElement(getCurrentPath()));
            calls.put(method, new TreeSet<>());
            super.visitMethod(tree, none);
            method = "";
            return null;
        }

        @Override
        public Void visitMethodInvocation(MethodInvocationTree tree, Void none) {
            note();
            return super.visitMethodInvocation(tree, none);
        }

        @Override
        public Void visitNewClass(NewClassTree tree, Void none) {
            note();
            return super.visitNewClass(tree, none);
        }

        private void note() {
            Element called = trees.getElement(getCurrentPath());
            if (calls.containsKey(method) && called != null) {
                calls.get(method).add(nameOf(called));
            }
        }
    }
}
