import com.sun.source.tree.CompilationUnitTree;
import com.sun.source.tree.MethodInvocationTree;
import com.sun.source.tree.MethodTree;
import com.sun.source.tree.NewClassTree;
import com.sun.source.util.JavacTask;
import com.sun.source.util.TreePath;
import com.sun.source.util.TreePathScanner;
import com.sun.source.util.Trees;
import java.nio.file.Path;
import java.util.ArrayList;
import java.util.LinkedHashMap;
import java.util.LinkedHashSet;
import java.util.List;
import java.util.Map;
import java.util.Set;
import javax.lang.model.element.Element;
import javax.tools.JavaCompiler;
import javax.tools.StandardJavaFileManager;
import javax.tools.ToolProvider;

/** Rules 8 and 11 of LANGUAGE.md: how deep calls of the program go, and which call themselves. Run from the project's directory. */
public final class CallsTest {
    private static final Path MAIN = Path.of("src/main/java/TurningRoads.java");
    private static final int MOST_DEEP = 8;
    private static final Map<String, Set<String>> CALLS = new LinkedHashMap<>();

    /** Notes who calls whom, by the methods' full names. */
    private static final class Caller extends TreePathScanner<Void, Trees> {
        private String caller = "";

        @Override
        public Void visitMethod(MethodTree method, Trees trees) {
            caller = name(trees.getElement(getCurrentPath()));
            CALLS.putIfAbsent(caller, new LinkedHashSet<>());
            return super.visitMethod(method, trees);
        }

        @Override
        public Void visitMethodInvocation(MethodInvocationTree call, Trees trees) {
            note(trees.getElement(new TreePath(getCurrentPath(), call.getMethodSelect())));
            return super.visitMethodInvocation(call, trees);
        }

        @Override
        public Void visitNewClass(NewClassTree made, Trees trees) {
            note(trees.getElement(getCurrentPath()));
            return super.visitNewClass(made, trees);
        }

        private void note(Element called) {
            if (called != null && CALLS.containsKey(caller)) {
                CALLS.get(caller).add(name(called));
            }
        }

        private static String name(Element method) {
            return method.getEnclosingElement() + "." + method;
        }
    }

    private static void read() throws Exception {
        JavaCompiler compiler = ToolProvider.getSystemJavaCompiler();
        try (StandardJavaFileManager files = compiler.getStandardFileManager(null, null, null)) {
            JavacTask task = (JavacTask) compiler.getTask(null, files, null, List.of("-proc:none"), null,
                files.getJavaFileObjects(MAIN.toFile()));
            Iterable<? extends CompilationUnitTree> units = task.parse();
            task.analyze();
            for (CompilationUnitTree unit : units) {
                new Caller().scan(unit, Trees.instance(task));
            }
        }
    }

    private static boolean comesTo(String from, String to, Set<String> seen) {
        for (String next : CALLS.getOrDefault(from, Set.of())) {
            if (next.equals(to) || seen.add(next) && comesTo(next, to, seen)) {
                return true;
            }
        }
        return false;
    }

    /** How deep calls go from here, one's own methods alone; what calls itself again counts once. */
    private static int deep(String from, List<String> open) {
        int deepest = 0;
        open.add(from);
        for (String next : CALLS.get(from)) {
            if (CALLS.containsKey(next) && !open.contains(next)) {
                deepest = Math.max(deepest, deep(next, open));
            }
        }
        open.remove(open.size() - 1);
        return deepest + 1;
    }

    public static void main(String[] args) throws Exception {
        read();
        Check.due("methods were found", CALLS.size() > 100 ? 1 : 0, 1);
        for (String method : CALLS.keySet()) {
            Check.due("calls from " + method + " go deeper than " + MOST_DEEP, deep(method, new ArrayList<>()) <= MOST_DEEP ? 0 : 1, 0);
            boolean again = comesTo(method, method, new LinkedHashSet<>());
            boolean carriesDepth = method.contains(".readTest(int)") || method.contains(".readFact(int)");
            Check.due("calls itself again: " + method, again ? 1 : 0, carriesDepth ? 1 : 0);
        }
        Check.finish();
    }
}
