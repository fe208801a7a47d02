import com.sun.source.tree.ClassTree;
import com.sun.source.tree.CompilationUnitTree;
import com.sun.source.tree.MethodInvocationTree;
import com.sun.source.tree.MethodTree;
import com.sun.source.tree.NewClassTree;
import com.sun.source.tree.Tree;
import com.sun.source.util.JavacTask;
import com.sun.source.util.TreePath;
import com.sun.source.util.TreePathScanner;
import com.sun.source.util.Trees;
import java.io.IOException;
import java.nio.file.Path;
import java.util.ArrayList;
import java.util.LinkedHashMap;
import java.util.LinkedHashSet;
import java.util.List;
import java.util.Map;
import java.util.Set;
import javax.lang.model.element.Element;
import javax.lang.model.element.ElementKind;
import javax.lang.model.element.ExecutableElement;
import javax.lang.model.element.TypeElement;
import javax.lang.model.type.TypeMirror;
import javax.tools.JavaCompiler;
import javax.tools.StandardJavaFileManager;
import javax.tools.ToolProvider;

/** The program's file as the compiler understands it: what stands in it, and who calls whom. */
final class Program {
    static final int ENDLESS = 1_000_000;

    final CompilationUnitTree file;
    final Map<Tree.Kind, List<TreePath>> nodes = new LinkedHashMap<>();
    final Map<Element, ClassTree> classes = new LinkedHashMap<>();
    final Map<Element, MethodTree> methods = new LinkedHashMap<>();
    private final Map<Element, Set<Element>> calls = new LinkedHashMap<>();
    private final JavacTask task;
    private final Trees trees;

    Program(Path source) throws IOException {
        JavaCompiler compiler = ToolProvider.getSystemJavaCompiler();
        try (StandardJavaFileManager files = compiler.getStandardFileManager(null, null, null)) {
            task = (JavacTask) compiler.getTask(null, files, null, List.of("-proc:none"), null,
                    files.getJavaFileObjects(source));
            file = task.parse().iterator().next();
            task.analyze();
            trees = Trees.instance(task);
            new Gatherer().scan(file, null);
        }
    }

    List<TreePath> all(Tree.Kind kind) {
        return nodes.getOrDefault(kind, List.of());
    }

    Element elementOf(TreePath path) {
        return trees.getElement(path);
    }

    TypeMirror typeOf(TreePath path) {
        return trees.getTypeMirror(path);
    }

    /** The method around a node; for a field's first value the class. */
    Element around(TreePath node) {
        TreePath path = node.getParentPath();
        while (!(path.getLeaf() instanceof MethodTree) && !(path.getLeaf() instanceof ClassTree)) {
            path = path.getParentPath();
        }
        return elementOf(path);
    }

    long lineOf(Tree tree) {
        return file.getLineMap().getLineNumber(trees.getSourcePositions().getStartPosition(file, tree));
    }

    /** 0 for a constructor that the compiler added. */
    long linesOf(Tree tree) {
        long end = trees.getSourcePositions().getEndPosition(file, tree);
        return end < 0 ? 0 : file.getLineMap().getLineNumber(end) - lineOf(tree) + 1;
    }

    /** The methods of the library that are called, as in "java.lang.Math.max". */
    Set<String> libraryCalls() {
        Set<String> names = new LinkedHashSet<>();
        for (Set<Element> called : calls.values()) {
            for (Element method : called) {
                if (method.getKind() == ElementKind.METHOD && !methods.containsKey(method)) {
                    names.add(method.getEnclosingElement() + "." + method.getSimpleName());
                }
            }
        }
        return names;
    }

    /** How many calls stand open at once when a method is called, its own among them; ENDLESS if it calls itself. */
    int depthFrom(Element method, List<Element> open) {
        if (open.contains(method)) {
            return ENDLESS;
        }
        List<Element> within = new ArrayList<>(open);
        within.add(method);
        int deepest = 0;
        for (Element called : callsOf(method)) {
            for (Element run : thatMayRun(called)) {
                deepest = Math.max(deepest, depthFrom(run, within));
            }
        }
        return deepest + 1;
    }

    /** A constructor also makes the first values of the fields. */
    private Set<Element> callsOf(Element method) {
        Set<Element> all = new LinkedHashSet<>(calls.getOrDefault(method, Set.of()));
        if (method.getKind() == ElementKind.CONSTRUCTOR) {
            all.addAll(calls.getOrDefault(method.getEnclosingElement(), Set.of()));
        }
        return all;
    }

    /** The method itself, if it is the program's own, and those that stand in its place in other classes. */
    private List<Element> thatMayRun(Element called) {
        List<Element> found = new ArrayList<>();
        for (Element own : methods.keySet()) {
            if (own.equals(called) || task.getElements().overrides((ExecutableElement) own,
                    (ExecutableElement) called, (TypeElement) own.getEnclosingElement())) {
                found.add(own);
            }
        }
        return found;
    }

    private final class Gatherer extends TreePathScanner<Void, Void> {
        @Override
        public Void scan(Tree tree, Void nothing) {
            if (tree != null && getCurrentPath() != null) {
                TreePath path = new TreePath(getCurrentPath(), tree);
                nodes.computeIfAbsent(tree.getKind(), kind -> new ArrayList<>()).add(path);
            }
            return super.scan(tree, nothing);
        }

        @Override
        public Void visitClass(ClassTree tree, Void nothing) {
            classes.put(elementOf(getCurrentPath()), tree);
            return super.visitClass(tree, nothing);
        }

        @Override
        public Void visitMethod(MethodTree tree, Void nothing) {
            methods.put(elementOf(getCurrentPath()), tree);
            return super.visitMethod(tree, nothing);
        }

        @Override
        public Void visitMethodInvocation(MethodInvocationTree tree, Void nothing) {
            addCall();
            return super.visitMethodInvocation(tree, nothing);
        }

        @Override
        public Void visitNewClass(NewClassTree tree, Void nothing) {
            addCall();
            return super.visitNewClass(tree, nothing);
        }

        private void addCall() {
            TreePath path = getCurrentPath();
            calls.computeIfAbsent(around(path), method -> new LinkedHashSet<>()).add(elementOf(path));
        }
    }
}
