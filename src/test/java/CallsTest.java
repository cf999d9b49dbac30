import com.sun.source.tree.ClassTree;
import com.sun.source.tree.CompilationUnitTree;
import com.sun.source.tree.MethodInvocationTree;
import com.sun.source.tree.MethodTree;
import com.sun.source.tree.NewArrayTree;
import com.sun.source.tree.NewClassTree;
import com.sun.source.tree.ThrowTree;
import com.sun.source.util.JavacTask;
import com.sun.source.util.TreePathScanner;
import com.sun.source.util.Trees;
import java.io.IOException;
import java.nio.file.Path;
import java.util.HashMap;
import java.util.HashSet;
import java.util.LinkedHashSet;
import java.util.List;
import java.util.Map;
import java.util.Set;
import javax.lang.model.element.Element;
import javax.lang.model.element.ExecutableElement;
import javax.tools.JavaCompiler;
import javax.tools.StandardJavaFileManager;
import javax.tools.ToolProvider;

/** Reads the class as the compiler does: who calls whom (LANGUAGE.md, rules 8 and 11), and who makes objects (rule 12). */
public final class CallsTest extends Due {
    private static final Path CLASS = Path.of("src/main/java/StampedWires.java");
    private static final int DEEPEST = 8;
    private static final int MOST_PARAMETERS = 7;
    private static final Map<Element, Set<Element>> calls = new HashMap<>();
    private static final Map<Element, Integer> depths = new HashMap<>();

    public static void main(String[] args) throws IOException {
        read();
        due(0, "methods that were read", calls.size() > 60, true);
        for (Element method : calls.keySet()) {
            due(0, "rule 11: calls that " + method + " opens", depthOf(method, new HashSet<>()) <= DEEPEST, true);
        }
        end("the calls keep to their rules");
    }

    private static void read() throws IOException {
        JavaCompiler compiler = ToolProvider.getSystemJavaCompiler();
        try (StandardJavaFileManager files = compiler.getStandardFileManager(null, null, null)) {
            JavacTask task = (JavacTask) compiler.getTask(null, files, null, List.of("-proc:none"), null, files.getJavaFileObjects(CLASS));
            for (CompilationUnitTree unit : task.parse()) {
                task.analyze();
                new Reader(Trees.instance(task)).scan(unit, null);
            }
        }
    }

    /** The method itself counts one; a method met again on its own way calls itself. */
    private static int depthOf(Element method, Set<Element> open) {
        if (!calls.containsKey(method)) return 0;
        if (depths.containsKey(method)) return depths.get(method);
        if (!open.add(method)) {
            due(0, "rule 8: " + method + " calls itself", true, false);
            return 0;
        }
        int below = 0;
        for (Element called : calls.get(method)) below = Math.max(below, depthOf(called, open));
        open.remove(method);
        depths.put(method, below + 1);
        return below + 1;
    }

    /** Notes for each method of the file which others it calls, and what it makes. */
    private static final class Reader extends TreePathScanner<Void, Void> {
        private final Trees trees;
        private ExecutableElement method;
        private boolean throwing;

        Reader(Trees trees) { this.trees = trees; }

        @Override public Void visitClass(ClassTree tree, Void none) {
            ExecutableElement outer = method;
            method = null;
            super.visitClass(tree, none);
            method = outer;
            return null;
        }

        @Override public Void visitMethod(MethodTree tree, Void none) {
            method = (ExecutableElement) trees.getElement(getCurrentPath());
            calls.putIfAbsent(method, new LinkedHashSet<>());
            due(0, "rule 11: parameters of " + method, tree.getParameters().size() <= MOST_PARAMETERS, true);
            super.visitMethod(tree, none);
            method = null;
            return null;
        }

        @Override public Void visitMethodInvocation(MethodInvocationTree tree, Void none) {
            if (method != null) calls.get(method).add(trees.getElement(getCurrentPath()));
            return super.visitMethodInvocation(tree, none);
        }

        @Override public Void visitThrow(ThrowTree tree, Void none) {
            throwing = true;
            super.visitThrow(tree, none);
            throwing = false;
            return null;
        }

        @Override public Void visitNewClass(NewClassTree tree, Void none) {
            if (method != null) calls.get(method).add(trees.getElement(getCurrentPath()));
            makes("an object");
            return super.visitNewClass(tree, none);
        }

        @Override public Void visitNewArray(NewArrayTree tree, Void none) {
            makes("an array");
            return super.visitNewArray(tree, none);
        }

        /** All rows are made as the object is made, so a run's room does not depend on its calls. */
        private void makes(String what) {
            boolean inCall = method != null && !method.getSimpleName().contentEquals("<init>") && !throwing;
            due(0, "rule 12: " + method + " makes " + what, inCall, false);
        }
    }

    private CallsTest() { }
}
