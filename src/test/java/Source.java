import com.sun.source.tree.ClassTree;
import com.sun.source.tree.CompilationUnitTree;
import com.sun.source.tree.MethodInvocationTree;
import com.sun.source.tree.MethodTree;
import com.sun.source.tree.Tree;
import com.sun.source.util.JavacTask;
import com.sun.source.util.TreePath;
import com.sun.source.util.TreePathScanner;
import com.sun.source.util.Trees;
import java.io.IOException;
import java.nio.file.Path;
import java.util.ArrayList;
import java.util.LinkedHashMap;
import java.util.List;
import java.util.Map;
import java.util.Set;
import java.util.TreeSet;
import javax.lang.model.element.Element;
import javax.lang.model.element.ExecutableElement;
import javax.tools.JavaCompiler;
import javax.tools.StandardJavaFileManager;
import javax.tools.ToolProvider;

/** The class as the compiler reads it: every piece of it with its path, and who calls whom. */
final class Source {
    private static final String FILE = "src/main/java/ThreeDays.java";

    final List<TreePath> pieces = new ArrayList<>();
    final Map<ExecutableElement, TreePath> methods = new LinkedHashMap<>();
    /** What each method calls: own methods by their elements, those of the library too. */
    final Map<ExecutableElement, Set<ExecutableElement>> calls = new LinkedHashMap<>();
    private Trees trees;
    private CompilationUnitTree unit;

    static Source read() throws IOException {
        Source source = new Source();
        JavaCompiler compiler = ToolProvider.getSystemJavaCompiler();
        try (StandardJavaFileManager files = compiler.getStandardFileManager(null, null, null)) {
            List<String> options = List.of("-proc:none");
            JavacTask task = (JavacTask) compiler.getTask(null, files, null, options, null,
                files.getJavaFileObjects(Path.of(FILE)));
            source.unit = task.parse().iterator().next();
            task.analyze();
            source.trees = Trees.instance(task);
            source.new Scanner().scan(source.unit, null);
        }
        return source;
    }

    private final class Scanner extends TreePathScanner<Void, Void> {
        @Override
        public Void scan(Tree tree, Void nothing) {
            if (tree != null && getCurrentPath() != null) {
                pieces.add(new TreePath(getCurrentPath(), tree));
            }
            return super.scan(tree, nothing);
        }

        @Override
        public Void visitMethod(MethodTree tree, Void nothing) {
            ExecutableElement method = (ExecutableElement) element(getCurrentPath());
            methods.put(method, getCurrentPath());
            calls.putIfAbsent(method, new java.util.LinkedHashSet<>());
            return super.visitMethod(tree, nothing);
        }

        @Override
        public Void visitMethodInvocation(MethodInvocationTree tree, Void nothing) {
            ExecutableElement caller = methodAround(getCurrentPath());
            if (caller != null) {
                calls.get(caller).add((ExecutableElement) element(getCurrentPath()));
            }
            return super.visitMethodInvocation(tree, nothing);
        }
    }

    Element element(TreePath path) {
        return trees.getElement(path);
    }

    javax.lang.model.type.TypeMirror type(TreePath path, Tree inside) {
        return trees.getTypeMirror(new TreePath(path, inside));
    }

    /** Null in a field's initialiser. */
    ExecutableElement methodAround(TreePath path) {
        for (TreePath at = path; at != null; at = at.getParentPath()) {
            if (at.getLeaf() instanceof MethodTree) {
                return (ExecutableElement) element(at);
            }
            if (at.getLeaf() instanceof ClassTree) {
                return null;
            }
        }
        return null;
    }

    boolean isOwn(Element element) {
        return element.getEnclosingElement().toString().startsWith("ThreeDays");
    }

    long line(TreePath path) {
        return unit.getLineMap().getLineNumber(trees.getSourcePositions().getStartPosition(unit, path.getLeaf()));
    }

    long lines(TreePath path) {
        long end = trees.getSourcePositions().getEndPosition(unit, path.getLeaf());
        return end < 0 ? 0 : unit.getLineMap().getLineNumber(end) - line(path) + 1;
    }

    /** How many calls stand open at once, one who calls itself through others being counted once. */
    int depth(ExecutableElement method, Set<String> open) {
        if (!open.add(method.getEnclosingElement() + "." + method)) {
            return 0;
        }
        int deepest = 0;
        for (ExecutableElement called : calls.getOrDefault(method, Set.of())) {
            deepest = Math.max(deepest, depth(called, open));
        }
        open.remove(method.getEnclosingElement() + "." + method);
        return deepest + 1;
    }

    boolean callsItself(ExecutableElement method) {
        Set<String> seen = new TreeSet<>();
        List<ExecutableElement> next = new ArrayList<>(calls.getOrDefault(method, Set.of()));
        while (!next.isEmpty()) {
            ExecutableElement called = next.remove(next.size() - 1);
            if (called.equals(method)) {
                return true;
            }
            if (seen.add(called.getEnclosingElement() + "." + called)) {
                next.addAll(calls.getOrDefault(called, Set.of()));
            }
        }
        return false;
    }
}
