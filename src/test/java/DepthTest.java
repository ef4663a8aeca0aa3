import com.sun.source.tree.ClassTree;
import com.sun.source.tree.CompilationUnitTree;
import com.sun.source.tree.ExpressionTree;
import com.sun.source.tree.MethodInvocationTree;
import com.sun.source.tree.MethodTree;
import com.sun.source.tree.NewClassTree;
import com.sun.source.tree.Tree;
import com.sun.source.util.JavacTask;
import com.sun.source.util.TreePath;
import com.sun.source.util.TreePathScanner;
import com.sun.source.util.Trees;
import java.nio.file.Path;
import java.util.HashMap;
import java.util.LinkedHashMap;
import java.util.LinkedHashSet;
import java.util.List;
import java.util.Map;
import java.util.Set;
import javax.lang.model.element.Element;
import javax.lang.model.element.ElementKind;
import javax.lang.model.element.Modifier;
import javax.tools.JavaCompiler;
import javax.tools.StandardJavaFileManager;
import javax.tools.ToolProvider;

/** Who calls whom in the file: LANGUAGE.md's rule 8 (recursion) and rule 11 (calls go at most eight deep). */
public final class DepthTest {
    private static final int DEEPEST = 8;
    private static final Tell T = new Tell("DepthTest");

    /** By method or constructor of the file, what it calls; what is not of the file calls nothing. */
    private final Map<Element, Set<Element>> calls = new LinkedHashMap<>();
    private final Map<Element, Integer> depths = new HashMap<>();

    private DepthTest() { }

    public static void main(String[] args) throws Exception {
        DepthTest test = new DepthTest();
        test.read(Path.of(args.length > 0 ? args[0] : "src/main/java/FlexGrid.java"));
        T.due("methods were read", test.calls.size() > 36, true);
        for (Element method : test.calls.keySet()) {
            test.recursion(method);
        }
        for (Element method : test.calls.keySet()) {
            if (method.getModifiers().contains(Modifier.PUBLIC)) {
                int depth = test.depth(method, 0);
                T.due(method + " goes " + depth + " deep", depth <= DEEPEST, true);
            }
        }
        T.end();
    }

    private void read(Path file) throws Exception {
        JavaCompiler compiler = ToolProvider.getSystemJavaCompiler();
        try (StandardJavaFileManager files = compiler.getStandardFileManager(null, null, null)) {
            JavacTask task = (JavacTask) compiler.getTask(null, files, null, List.of("-proc:none"), null,
                files.getJavaFileObjects(file));
            Iterable<? extends CompilationUnitTree> units = task.parse();
            task.analyze();
            for (CompilationUnitTree unit : units) {
                new Scanner(Trees.instance(task)).scan(unit, null);
            }
        }
    }

    private final class Scanner extends TreePathScanner<Void, Element> {
        private final Trees trees;

        Scanner(Trees trees) {
            this.trees = trees;
        }

        /** What stands in a field's initialiser is done by the constructor. */
        @Override
        public Void visitClass(ClassTree node, Element outer) {
            Element constructor = null;
            for (Tree member : node.getMembers()) {
                Element e = trees.getElement(new TreePath(getCurrentPath(), member));
                if (e != null && e.getKind() == ElementKind.CONSTRUCTOR) {
                    constructor = e;
                }
            }
            return super.visitClass(node, constructor);
        }

        @Override
        public Void visitMethod(MethodTree node, Element outer) {
            Element method = trees.getElement(getCurrentPath());
            calls.computeIfAbsent(method, m -> new LinkedHashSet<>());
            return super.visitMethod(node, method);
        }

        @Override
        public Void visitMethodInvocation(MethodInvocationTree node, Element caller) {
            note(caller, node.getMethodSelect());
            return super.visitMethodInvocation(node, caller);
        }

        @Override
        public Void visitNewClass(NewClassTree node, Element caller) {
            note(caller, node);
            return super.visitNewClass(node, caller);
        }

        private void note(Element caller, ExpressionTree callee) {
            Element called = trees.getElement(new TreePath(getCurrentPath(), callee));
            if (callee instanceof NewClassTree) {
                called = trees.getElement(getCurrentPath());
            }
            calls.computeIfAbsent(caller, m -> new LinkedHashSet<>()).add(called);
        }
    }

    /** A method that calls itself is private and static; none comes back to itself by way of others. */
    private void recursion(Element method) {
        Set<Element> seen = new LinkedHashSet<>();
        List<Element> next = List.copyOf(calls.get(method));
        while (!next.isEmpty()) {
            Set<Element> beyond = new LinkedHashSet<>();
            for (Element e : next) {
                if (e != method && seen.add(e)) {
                    beyond.addAll(calls.getOrDefault(e, Set.of()));
                }
            }
            T.due(method + " comes back to itself by others", beyond.contains(method), false);
            next = List.copyOf(beyond);
        }
        if (calls.get(method).contains(method)) {
            boolean fine = method.getModifiers().containsAll(Set.of(Modifier.PRIVATE, Modifier.STATIC));
            T.due(method + " calls itself, private and static", fine, true);
        }
    }

    /** How many calls stand open at once, this one and the library's too, a method that calls itself once. */
    private int depth(Element method, int above) {
        if (above > 50 || depths.containsKey(method)) {
            return depths.getOrDefault(method, 1000);
        }
        int below = 0;
        for (Element e : calls.getOrDefault(method, Set.of())) {
            below = e == method ? below : Math.max(below, depth(e, above + 1));
        }
        depths.put(method, below + 1);
        return below + 1;
    }
}
