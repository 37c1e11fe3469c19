import com.sun.source.tree.AssignmentTree;
import com.sun.source.tree.BinaryTree;
import com.sun.source.tree.ClassTree;
import com.sun.source.tree.CompilationUnitTree;
import com.sun.source.tree.MethodInvocationTree;
import com.sun.source.tree.MethodTree;
import com.sun.source.tree.NewClassTree;
import com.sun.source.tree.Tree;
import com.sun.source.tree.VariableTree;
import com.sun.source.util.JavacTask;
import com.sun.source.util.TreePath;
import com.sun.source.util.TreePathScanner;
import com.sun.source.util.Trees;
import java.io.File;
import java.util.EnumSet;
import java.util.HashSet;
import java.util.List;
import java.util.Map;
import java.util.Set;
import java.util.TreeMap;
import java.util.TreeSet;
import javax.lang.model.element.Element;
import javax.lang.model.element.Modifier;
import javax.lang.model.type.TypeMirror;
import javax.tools.JavaCompiler;
import javax.tools.StandardJavaFileManager;
import javax.tools.ToolProvider;

/** Rules of LANGUAGE.md that only the compiler's own reading of the source can tell: library, types, depth of calls. */
public final class RulesTest {
    private static final Set<Tree.Kind> NEVER = EnumSet.of(Tree.Kind.LAMBDA_EXPRESSION, Tree.Kind.MEMBER_REFERENCE,
        Tree.Kind.THROW, Tree.Kind.TRY, Tree.Kind.SYNCHRONIZED, Tree.Kind.ASSERT, Tree.Kind.SWITCH_EXPRESSION);
    private static final Set<String> LIBRARY = Set.of("java.lang.String.indexOf", "java.lang.System.arraycopy",
        "java.util.Arrays.fill", "java.lang.Math.max", "java.lang.Math.min");
    private static final Set<String> TYPES = Set.of("int", "long", "boolean", "int[]", "long[]", "long[][]",
        "java.lang.String");
    private static final int DEEPEST = 8, PARAMETERS = 7;
    private static final Due due = new Due();

    /** By method: those that it calls. */
    private final Map<String, Set<String>> calls = new TreeMap<>();
    private final Set<String> open = new TreeSet<>();
    private final Set<String> methods = new HashSet<>();

    public static void main(String[] args) throws Exception {
        String path = System.getProperty("hatrank.source", "src/main/java/HatRank.java");
        JavaCompiler compiler = ToolProvider.getSystemJavaCompiler();
        try (StandardJavaFileManager files = compiler.getStandardFileManager(null, null, null)) {
            JavacTask task = (JavacTask) compiler.getTask(null, files, null, List.of("-proc:none"), null,
                files.getJavaFileObjects(new File(path)));
            Iterable<? extends CompilationUnitTree> units = task.parse();
            task.analyze();
            RulesTest rules = new RulesTest();
            for (CompilationUnitTree unit : units) {
                rules.new Reader(Trees.instance(task)).scan(unit, null);
            }
            rules.depths();
        }
        due.end();
    }

    /** Each method counts once, those of a recursion too: the longest row of calls that has none twice. */
    private void depths() {
        due.is("public methods", open.size(), 36);
        for (String method : open) {
            int depth = deepest(method, new HashSet<>());
            due.holds(method + " goes " + depth + " deep", depth <= DEEPEST);
        }
    }

    private int deepest(String method, Set<String> above) {
        if (!above.add(method)) {
            return 0;
        }
        int most = 0;
        for (String called : calls.getOrDefault(method, Set.of())) {
            most = Math.max(most, deepest(called, above));
        }
        above.remove(method);
        return most + 1;
    }

    private final class Reader extends TreePathScanner<Void, Void> {
        private final Trees trees;
        private String method = "";

        Reader(Trees trees) {
            this.trees = trees;
        }

        @Override
        public Void scan(Tree tree, Void none) {
            if (tree != null) {
                due.holds("no " + tree.getKind(), !NEVER.contains(tree.getKind()));
            }
            return super.scan(tree, none);
        }

        private Element element() {
            return trees.getElement(getCurrentPath());
        }

        private String name(Element of) {
            return of.getEnclosingElement() + "." + of.getSimpleName();
        }

        private TypeMirror type(Tree of) {
            return trees.getTypeMirror(new TreePath(getCurrentPath(), of));
        }

        private boolean isOwn(String name) {
            return name.equals("HatRank") || name.startsWith("HatRank.");
        }

        @Override
        public Void visitClass(ClassTree tree, Void none) {
            boolean outer = tree.getSimpleName().contentEquals("HatRank");
            Set<Modifier> modifiers = tree.getModifiers().getFlags();
            due.holds(tree.getSimpleName() + " is static", outer || modifiers.contains(Modifier.STATIC));
            due.holds(tree.getSimpleName() + " has a name", tree.getSimpleName().length() > 0);
            return super.visitClass(tree, none);
        }

        @Override
        public Void visitMethod(MethodTree tree, Void none) {
            String before = method;
            method = name(element());
            // calls are told by names alone
            boolean constructor = tree.getName().contentEquals("<init>");
            due.holds(method + " is there once", constructor || methods.add(method));
            due.holds(method + " takes at most seven", tree.getParameters().size() <= PARAMETERS);
            if (!constructor && tree.getModifiers().getFlags().contains(Modifier.PUBLIC)) {
                open.add(method);
            }
            super.visitMethod(tree, none);
            method = before;
            return null;
        }

        @Override
        public Void visitMethodInvocation(MethodInvocationTree tree, Void none) {
            Element called = element();
            String name = name(called);
            if (isOwn(name)) {
                calls.computeIfAbsent(method, m -> new TreeSet<>()).add(name);
            } else {
                boolean parent = called.getSimpleName().contentEquals("<init>");
                due.holds("the library has " + name, parent || LIBRARY.contains(name));
            }
            return super.visitMethodInvocation(tree, none);
        }

        @Override
        public Void visitNewClass(NewClassTree tree, Void none) {
            due.holds("made: " + tree.getIdentifier(), isOwn(type(tree.getIdentifier()).toString()));
            due.holds("no body behind new", tree.getClassBody() == null);
            return super.visitNewClass(tree, none);
        }

        @Override
        public Void visitVariable(VariableTree tree, Void none) {
            String type = element().asType().toString();
            boolean own = isOwn(type.endsWith("[]") ? type.substring(0, type.length() - 2) : type);
            due.holds(tree.getName() + " is of " + type, own || TYPES.contains(type));
            Set<Modifier> modifiers = tree.getModifiers().getFlags();
            due.holds(tree.getName() + " is final, if static",
                !modifiers.contains(Modifier.STATIC) || modifiers.contains(Modifier.FINAL));
            return super.visitVariable(tree, none);
        }

        @Override
        public Void visitBinary(BinaryTree tree, Void none) {
            String left = String.valueOf(type(tree.getLeftOperand()));
            String right = String.valueOf(type(tree.getRightOperand()));
            due.holds("no texts: " + tree, !left.contains("String") && !right.contains("String"));
            return super.visitBinary(tree, none);
        }

        /** An array that is static is never changed. */
        @Override
        public Void visitAssignment(AssignmentTree tree, Void none) {
            String target = tree.getVariable().toString();
            due.holds("no change of " + target, !target.matches("[A-Z].*\\[.*"));
            return super.visitAssignment(tree, none);
        }
    }
}
