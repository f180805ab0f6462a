import com.sun.source.tree.BinaryTree;
import com.sun.source.tree.ClassTree;
import com.sun.source.tree.CompilationUnitTree;
import com.sun.source.tree.ImportTree;
import com.sun.source.tree.MethodInvocationTree;
import com.sun.source.tree.MethodTree;
import com.sun.source.tree.NewArrayTree;
import com.sun.source.tree.NewClassTree;
import com.sun.source.tree.Tree;
import com.sun.source.tree.VariableTree;
import com.sun.source.util.JavacTask;
import com.sun.source.util.SourcePositions;
import com.sun.source.util.TreePathScanner;
import com.sun.source.util.Trees;
import java.io.File;
import java.io.IOException;
import java.util.Arrays;
import java.util.EnumSet;
import java.util.HashMap;
import java.util.HashSet;
import java.util.LinkedHashMap;
import java.util.LinkedHashSet;
import java.util.List;
import java.util.Map;
import java.util.Set;
import java.util.TreeSet;
import javax.lang.model.element.Element;
import javax.lang.model.element.ElementKind;
import javax.lang.model.element.Modifier;
import javax.tools.JavaCompiler;
import javax.tools.StandardJavaFileManager;
import javax.tools.ToolProvider;

/** The rules of LANGUAGE.md that can be read off the file, in the narrow form that the class keeps to. */
public final class LanguageTest {
    private static final String FILE = "src/main/java/WorkflowEngine.java";
    private static final Set<Tree.Kind> NEVER = EnumSet.of(Tree.Kind.LAMBDA_EXPRESSION, Tree.Kind.MEMBER_REFERENCE,
        Tree.Kind.TRY, Tree.Kind.THROW, Tree.Kind.SYNCHRONIZED, Tree.Kind.ASSERT, Tree.Kind.INSTANCE_OF,
        Tree.Kind.WHILE_LOOP, Tree.Kind.DO_WHILE_LOOP, Tree.Kind.ENHANCED_FOR_LOOP, Tree.Kind.STRING_LITERAL,
        Tree.Kind.FLOAT_LITERAL, Tree.Kind.DOUBLE_LITERAL, Tree.Kind.SWITCH_EXPRESSION, Tree.Kind.ANNOTATION);
    private static final Set<String> LIBRARY = new HashSet<>(Arrays.asList("java.lang.Math.min", "java.lang.Math.max",
        "java.lang.System.arraycopy", "java.util.Arrays.fill"));
    private static final Set<String> TYPES = new HashSet<>(Arrays.asList("int", "long", "boolean", "int[]"));

    private static final Map<Element, Set<Element>> calls = new LinkedHashMap<>();
    private static final Set<String> classes = new TreeSet<>();

    public static void main(String[] args) throws IOException {
        JavaCompiler compiler = ToolProvider.getSystemJavaCompiler();
        try (StandardJavaFileManager files = compiler.getStandardFileManager(null, null, null)) {
            JavacTask task = (JavacTask) compiler.getTask(null, files, null, List.of("--release", "17"), null,
                files.getJavaFileObjects(new File(FILE)));
            CompilationUnitTree unit = task.parse().iterator().next();
            task.analyze();
            Check.same("package", 0, unit.getPackage() == null ? 0 : 1);
            for (ImportTree imported : unit.getImports()) {
                Check.same("import", "java.util.Arrays", imported.getQualifiedIdentifier().toString());
            }
            new Rules(unit, Trees.instance(task)).scan(unit, null);
        }
        Check.same("at most twelve classes", 1, classes.size() <= 12 ? 1 : 0);
        depths();
        Check.end();
    }

    private static final class Rules extends TreePathScanner<Void, Void> {
        private final CompilationUnitTree unit;
        private final Trees trees;
        private Element method;

        Rules(CompilationUnitTree unit, Trees trees) {
            this.unit = unit;
            this.trees = trees;
        }

        @Override
        public Void scan(Tree tree, Void nothing) {
            if (tree != null) {
                Check.same(at(tree) + tree.getKind(), 0, NEVER.contains(tree.getKind()) ? 1 : 0);
            }
            return super.scan(tree, nothing);
        }

        private String at(Tree tree) {
            return "line " + unit.getLineMap().getLineNumber(positions().getStartPosition(unit, tree)) + ": ";
        }

        private SourcePositions positions() {
            return trees.getSourcePositions();
        }

        @Override
        public Void visitClass(ClassTree tree, Void nothing) {
            classes.add(tree.getSimpleName().toString());
            boolean outer = tree.getSimpleName().contentEquals("WorkflowEngine");
            Set<Modifier> flags = tree.getModifiers().getFlags();
            Check.same(at(tree) + "modifiers", outer ? "[public, final]" : "[private, static, final]", flags.toString());
            int fields = 0;
            for (Tree member : tree.getMembers()) {
                boolean field = member instanceof VariableTree;
                fields += field && !((VariableTree) member).getModifiers().getFlags().contains(Modifier.STATIC) ? 1 : 0;
            }
            Check.same(at(tree) + fields + " fields", 1, fields <= 20 ? 1 : 0);
            return super.visitClass(tree, nothing);
        }

        @Override
        public Void visitVariable(VariableTree tree, Void nothing) {
            String type = tree.getType().toString();
            boolean own = classes.contains(type.replace("[]", "")) || type.matches("(Version|Reader|World|Environment|"
                + "History|Instance)(\\[\\])?");
            Check.same(at(tree) + "type " + type, 1, own || TYPES.contains(type) ? 1 : 0);
            Set<Modifier> flags = tree.getModifiers().getFlags();
            if (flags.contains(Modifier.STATIC)) {
                Check.same(at(tree) + "a constant", 1, flags.contains(Modifier.FINAL) && type.equals("int") ? 1 : 0);
            }
            return super.visitVariable(tree, nothing);
        }

        @Override
        public Void visitMethod(MethodTree tree, Void nothing) {
            Check.same(at(tree) + "parameters", 1, tree.getParameters().size() <= 7 ? 1 : 0);
            long first = unit.getLineMap().getLineNumber(positions().getStartPosition(unit, tree));
            long last = unit.getLineMap().getLineNumber(positions().getEndPosition(unit, tree));
            Check.same(at(tree) + tree.getName() + " is short", 1, last - first < 40 ? 1 : 0);
            Element before = method;
            method = trees.getElement(getCurrentPath());
            calls.putIfAbsent(method, new LinkedHashSet<>());
            super.visitMethod(tree, nothing);
            method = before;
            return null;
        }

        @Override
        public Void visitMethodInvocation(MethodInvocationTree tree, Void nothing) {
            Element called = trees.getElement(getCurrentPath());
            String owner = called.getEnclosingElement().toString();
            if (owner.startsWith("WorkflowEngine")) {
                calls.get(method).add(called);
            } else if (called.getKind() != ElementKind.CONSTRUCTOR) {
                String name = owner + "." + called.getSimpleName();
                Check.same(at(tree) + name, 1, LIBRARY.contains(name) ? 1 : 0);
            }
            return super.visitMethodInvocation(tree, nothing);
        }

        /** The room is counted: objects are made with an engine alone, in constructors and fields. */
        @Override
        public Void visitNewClass(NewClassTree tree, Void nothing) {
            made(tree);
            return super.visitNewClass(tree, nothing);
        }

        @Override
        public Void visitNewArray(NewArrayTree tree, Void nothing) {
            made(tree);
            return super.visitNewArray(tree, nothing);
        }

        private void made(Tree tree) {
            boolean builds = method == null || method.getKind() == ElementKind.CONSTRUCTOR;
            Check.same(at(tree) + "made outside a constructor", 1, builds ? 1 : 0);
        }

        @Override
        public Void visitBinary(BinaryTree tree, Void nothing) {
            String type = trees.getTypeMirror(getCurrentPath()).toString();
            Check.same(at(tree) + "joins texts", 0, type.contains("String") ? 1 : 0);
            return super.visitBinary(tree, nothing);
        }
    }

    /** Calls that are no recursion go at most eight deep: methods that call one another count once. */
    private static void depths() {
        Map<Element, Set<Element>> reached = new HashMap<>();
        for (Element method : calls.keySet()) {
            Set<Element> found = new HashSet<>();
            reach(method, found);
            reached.put(method, found);
        }
        int deepest = 0;
        for (Element method : calls.keySet()) {
            deepest = Math.max(deepest, depth(method, reached));
        }
        Check.same("calls go " + deepest + " deep", 1, deepest <= 8 ? 1 : 0);
        TreeSet<String> recursive = new TreeSet<>();
        for (Element method : calls.keySet()) {
            if (reached.get(method).contains(method)) {
                recursive.add(method.getSimpleName().toString());
            }
        }
        Check.same("recursion, with its depth as an argument", "[beginBodies, beginBody, beginItem, goOn, lookAt, lookAtChoice,"
            + " lookAtParallel, readBody, readBodyOf, readChoice, readItem, readParallel]", recursive.toString());
    }

    private static void reach(Element method, Set<Element> found) {
        for (Element called : calls.get(method)) {
            if (found.add(called)) {
                reach(called, found);
            }
        }
    }

    private static int depth(Element method, Map<Element, Set<Element>> reached) {
        int deepest = 0;
        Set<Element> same = new HashSet<>();
        same.add(method);
        for (Element other : reached.get(method)) {
            if (reached.get(other).contains(method)) {
                same.add(other);
            }
        }
        for (Element member : same) {
            for (Element called : calls.get(member)) {
                if (!same.contains(called)) {
                    deepest = Math.max(deepest, depth(called, reached));
                }
            }
        }
        return deepest + 1;
    }
}
