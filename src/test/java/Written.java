import com.sun.source.tree.ClassTree;
import com.sun.source.tree.CompilationUnitTree;
import com.sun.source.tree.DoWhileLoopTree;
import com.sun.source.tree.ExpressionTree;
import com.sun.source.tree.ForLoopTree;
import com.sun.source.tree.MethodInvocationTree;
import com.sun.source.tree.MethodTree;
import com.sun.source.tree.NewArrayTree;
import com.sun.source.tree.NewClassTree;
import com.sun.source.tree.ThrowTree;
import com.sun.source.tree.Tree;
import com.sun.source.tree.VariableTree;
import com.sun.source.tree.WhileLoopTree;
import com.sun.source.util.JavacTask;
import com.sun.source.util.SourcePositions;
import com.sun.source.util.TreePath;
import com.sun.source.util.TreePathScanner;
import com.sun.source.util.Trees;
import java.io.IOException;
import java.nio.file.Path;
import java.util.ArrayList;
import java.util.List;
import java.util.Map;
import java.util.TreeMap;
import java.util.TreeSet;
import javax.lang.model.element.Element;
import javax.lang.model.element.ExecutableElement;
import javax.lang.model.element.Modifier;
import javax.lang.model.type.TypeMirror;
import javax.tools.JavaCompiler;
import javax.tools.StandardJavaFileManager;
import javax.tools.ToolProvider;

/** What a Java file is written with, as the compiler reads it. */
final class Written {
    /** The kinds of tree that the compiler makes of it. */
    final TreeSet<String> kinds = new TreeSet<>();
    /** The types of its variables, parameters and answers. */
    final TreeSet<String> types = new TreeSet<>();
    /** The constructors and methods that it calls and does not have. */
    final TreeSet<String> library = new TreeSet<>();
    /** Its static fields, each by "final ", if it is, and its type. */
    final TreeSet<String> statics = new TreeSet<>();
    final TreeSet<String> thrown = new TreeSet<>();
    final TreeSet<String> throwingConstructors = new TreeSet<>();
    final TreeSet<String> madeInLoops = new TreeSet<>();
    final TreeSet<String> loopsWithoutCondition = new TreeSet<>();
    final Map<String, Integer> lines = new TreeMap<>();
    /** Each constructor and method, with those of its own that it calls. */
    final Map<String, TreeSet<String>> calls = new TreeMap<>();
    final List<String> topClasses = new ArrayList<>();
    final List<String> allClasses = new ArrayList<>();
    String packageLine = "";

    private final Trees trees;
    private final CompilationUnitTree unit;

    private Written(Trees trees, CompilationUnitTree unit) {
        this.trees = trees;
        this.unit = unit;
    }

    static Written in(Path file) throws IOException {
        JavaCompiler compiler = ToolProvider.getSystemJavaCompiler();
        try (StandardJavaFileManager files = compiler.getStandardFileManager(null, null, null)) {
            JavacTask task = (JavacTask) compiler.getTask(null, files, null,
                List.of("--release", "17", "-proc:none"), null, files.getJavaFileObjects(file));
            CompilationUnitTree unit = task.parse().iterator().next();
            task.analyze();
            Written written = new Written(Trees.instance(task), unit);
            written.look();
            return written;
        }
    }

    /** How many calls stand open at once in the dearest call of a method, itself among them. */
    int depthOf(String method) {
        return depthOf(method, new TreeSet<>());
    }

    private int depthOf(String method, TreeSet<String> open) {
        if (!open.add(method)) {
            return Integer.MAX_VALUE / 2;
        }
        int deepest = 0;
        for (String called : calls.getOrDefault(method, new TreeSet<>())) {
            deepest = Math.max(deepest, depthOf(called, open));
        }
        open.remove(method);
        return deepest + 1;
    }

    private void look() {
        if (unit.getPackageName() != null) {
            packageLine = unit.getPackageName().toString();
        }
        for (Tree top : unit.getTypeDecls()) {
            topClasses.add(((ClassTree) top).getSimpleName().toString());
        }
        new Look().scan(new TreePath(unit), null);
    }

    private final class Look extends TreePathScanner<Void, Void> {
        private String method = "";
        private int loops = 0;

        @Override
        public Void scan(Tree tree, Void none) {
            if (tree == null) {
                return null;
            }
            kinds.add(tree.getKind().name());
            boolean loop = isLoop(tree);
            loops += loop ? 1 : 0;
            super.scan(tree, none);
            loops -= loop ? 1 : 0;
            return null;
        }

        private boolean isLoop(Tree tree) {
            switch (tree.getKind()) {
                case FOR_LOOP: case WHILE_LOOP: case DO_WHILE_LOOP: case ENHANCED_FOR_LOOP:
                    return true;
                default:
                    return false;
            }
        }

        @Override
        public Void visitClass(ClassTree tree, Void none) {
            allClasses.add(tree.getSimpleName().toString());
            return super.visitClass(tree, none);
        }

        @Override
        public Void visitMethod(MethodTree tree, Void none) {
            ExecutableElement element = (ExecutableElement) trees.getElement(getCurrentPath());
            method = nameOf(element);
            SourcePositions places = trees.getSourcePositions();
            long from = unit.getLineMap().getLineNumber(Math.max(0, places.getStartPosition(unit, tree)));
            long to = unit.getLineMap().getLineNumber(Math.max(0, places.getEndPosition(unit, tree)));
            lines.put(method, (int) (to - from + 1));
            types.add(element.getReturnType().toString());
            calls.computeIfAbsent(method, k -> new TreeSet<>());
            super.visitMethod(tree, none);
            method = "";
            return null;
        }

        @Override
        public Void visitVariable(VariableTree tree, Void none) {
            Element element = trees.getElement(getCurrentPath());
            TypeMirror type = element.asType();
            types.add(type.toString());
            if (element.getModifiers().contains(Modifier.STATIC)) {
                boolean constant = element.getModifiers().contains(Modifier.FINAL);
                statics.add((constant ? "final " : "") + type);
            }
            return super.visitVariable(tree, none);
        }

        @Override
        public Void visitMethodInvocation(MethodInvocationTree tree, Void none) {
            called((ExecutableElement) trees.getElement(getCurrentPath()));
            return super.visitMethodInvocation(tree, none);
        }

        @Override
        public Void visitNewClass(NewClassTree tree, Void none) {
            called((ExecutableElement) trees.getElement(getCurrentPath()));
            if (loops > 0) {
                madeInLoops.add(method + ": " + tree);
            }
            return super.visitNewClass(tree, none);
        }

        @Override
        public Void visitNewArray(NewArrayTree tree, Void none) {
            if (loops > 0) {
                madeInLoops.add(method + ": " + tree);
            }
            return super.visitNewArray(tree, none);
        }

        @Override
        public Void visitThrow(ThrowTree tree, Void none) {
            thrown.add(tree.getExpression().toString());
            if (method.contains("<init>")) {
                throwingConstructors.add(method);
            }
            return super.visitThrow(tree, none);
        }

        @Override
        public Void visitForLoop(ForLoopTree tree, Void none) {
            condition(tree.getCondition());
            return super.visitForLoop(tree, none);
        }

        @Override
        public Void visitWhileLoop(WhileLoopTree tree, Void none) {
            condition(tree.getCondition());
            return super.visitWhileLoop(tree, none);
        }

        @Override
        public Void visitDoWhileLoop(DoWhileLoopTree tree, Void none) {
            condition(tree.getCondition());
            return super.visitDoWhileLoop(tree, none);
        }

        private void condition(ExpressionTree condition) {
            if (condition == null || condition.toString().contains("true")) {
                loopsWithoutCondition.add(method);
            }
        }

        private void called(ExecutableElement element) {
            String name = nameOf(element);
            if (name.startsWith("TextKeeper.")) {
                calls.computeIfAbsent(method, k -> new TreeSet<>()).add(name);
            } else if (!name.equals("java.lang.Object.<init>()")) {
                library.add(name);
            }
        }

        private String nameOf(ExecutableElement element) {
            return element.getEnclosingElement() + "." + element.getSimpleName() + "(" + parameters(element) + ")";
        }

        private String parameters(ExecutableElement element) {
            List<String> all = new ArrayList<>();
            element.getParameters().forEach(p -> all.add(p.asType().toString()));
            return String.join(",", all);
        }
    }
}
