import com.sun.source.tree.ClassTree;
import com.sun.source.tree.CompilationUnitTree;
import com.sun.source.tree.MethodInvocationTree;
import com.sun.source.tree.MethodTree;
import com.sun.source.tree.NewArrayTree;
import com.sun.source.tree.NewClassTree;
import com.sun.source.tree.Tree;
import com.sun.source.tree.TypeCastTree;
import com.sun.source.tree.VariableTree;
import com.sun.source.util.JavacTask;
import com.sun.source.util.TreePathScanner;
import com.sun.source.util.Trees;
import java.io.IOException;
import java.nio.file.Path;
import java.util.HashMap;
import java.util.LinkedHashMap;
import java.util.LinkedHashSet;
import java.util.List;
import java.util.Map;
import java.util.Set;
import javax.lang.model.element.Element;
import javax.tools.JavaCompiler;
import javax.tools.StandardJavaFileManager;
import javax.tools.ToolProvider;

/**
 * Who calls what in the class, as the compiler sees it: rules 4, 8, 11 and 12 of
 * ../shared/LANGUAGE.md. A class's fields count as called by each of its constructors.
 */
final class FormTest {
    private static final Path SOURCE = Path.of("src/main/java/TwoShapes.java");
    private static final int DEEPEST = 8;
    private static final Set<String> LIBRARY = Set.of("System.arraycopy", "Math.min", "Math.max", "Integer.bitCount",
            "Object.<init>");

    private final Map<Element, Set<Element>> calls = new LinkedHashMap<>();
    private final Map<Element, Integer> depths = new HashMap<>();
    private final Set<Element> open = new LinkedHashSet<>();

    public static void main(String[] args) throws IOException {
        FormTest test = new FormTest();
        test.read();
        isSo("the class has methods", test.calls.size() > 26);
        for (Element method : test.calls.keySet()) {
            int depth = test.depth(method);
            isSo(method.getEnclosingElement() + "." + method + " goes " + depth + " deep", depth <= DEEPEST);
        }
        Due.end();
    }

    private static void isSo(String what, boolean so) {
        Due.due(what, 1, so ? 1 : 0);
    }

    private void read() throws IOException {
        JavaCompiler compiler = ToolProvider.getSystemJavaCompiler();
        try (StandardJavaFileManager files = compiler.getStandardFileManager(null, null, null)) {
            JavacTask task = (JavacTask) compiler.getTask(null, files, null, List.of("-proc:none"), null,
                    files.getJavaFileObjects(SOURCE));
            Iterable<? extends CompilationUnitTree> units = task.parse();
            task.analyze();
            for (CompilationUnitTree unit : units) {
                new Scanner(Trees.instance(task)).scan(unit, null);
            }
        }
    }

    /** How many methods stand open at once, this one included. */
    private int depth(Element method) {
        Integer known = depths.get(method);
        if (known != null) {
            return known;
        }
        boolean again = !open.add(method);
        isSo(method + " does not call itself, " + open, !again);
        if (again) {
            return 0;
        }
        int deepest = 0;
        for (Element called : calls.getOrDefault(method, Set.of())) {
            deepest = Math.max(deepest, depth(called));
        }
        open.remove(method);
        depths.put(method, deepest + 1);
        return deepest + 1;
    }

    private final class Scanner extends TreePathScanner<Void, Void> {
        private final Trees trees;
        private ClassTree inside;
        private MethodTree method;

        Scanner(Trees trees) {
            this.trees = trees;
        }

        private Element here() {
            return trees.getElement(getCurrentPath());
        }

        @Override
        public Void visitClass(ClassTree tree, Void none) {
            ClassTree outer = inside;
            inside = tree;
            super.visitClass(tree, none);
            inside = outer;
            return null;
        }

        @Override
        public Void visitMethod(MethodTree tree, Void none) {
            method = tree;
            calls.computeIfAbsent(here(), key -> new LinkedHashSet<>());
            super.visitMethod(tree, none);
            method = null;
            return null;
        }

        /** A made constructor has no tree of its own in the source, but the compiler puts one in. */
        private boolean isConstructor(MethodTree tree) {
            return tree.getReturnType() == null;
        }

        private Element element(Tree tree) {
            return trees.getElement(trees.getPath(getCurrentPath().getCompilationUnit(), tree));
        }

        private void called(Element called) {
            String name = called.getEnclosingElement().getSimpleName() + "." + called.getSimpleName();
            String owner = called.getEnclosingElement().toString();
            if (!owner.equals("TwoShapes") && !owner.startsWith("TwoShapes.")) {
                isSo("the library's " + name, LIBRARY.contains(name));
                return;
            }
            if (method != null) {
                calls.get(element(method)).add(called);
                return;
            }
            for (Tree member : inside.getMembers()) {
                if (member instanceof MethodTree other && isConstructor(other)) {
                    calls.computeIfAbsent(element(other), key -> new LinkedHashSet<>()).add(called);
                }
            }
        }

        /** All rows stand from the constructor on: what calls made would add up in the room. */
        private void made(Tree tree) {
            isSo(tree + " is made by a constructor", method == null || isConstructor(method));
        }

        @Override
        public Void visitMethodInvocation(MethodInvocationTree tree, Void none) {
            called(here());
            return super.visitMethodInvocation(tree, none);
        }

        @Override
        public Void visitNewClass(NewClassTree tree, Void none) {
            called(here());
            made(tree);
            return super.visitNewClass(tree, none);
        }

        @Override
        public Void visitNewArray(NewArrayTree tree, Void none) {
            made(tree);
            return super.visitNewArray(tree, none);
        }

        @Override
        public Void visitTypeCast(TypeCastTree tree, Void none) {
            isSo("no cast, as " + tree, false);
            return super.visitTypeCast(tree, none);
        }

        /** Rule 3: of the types, the class needs no others than these. */
        @Override
        public Void visitVariable(VariableTree tree, Void none) {
            String type = trees.getTypeMirror(getCurrentPath()).toString();
            boolean plain = Set.of("int", "int[]", "boolean").contains(type) || type.startsWith("TwoShapes.");
            isSo(type + " " + tree.getName() + " is of a plain type", plain);
            return super.visitVariable(tree, none);
        }
    }
}
