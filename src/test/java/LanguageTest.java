import com.sun.source.tree.AssignmentTree;
import com.sun.source.tree.BinaryTree;
import com.sun.source.tree.ClassTree;
import com.sun.source.tree.CompilationUnitTree;
import com.sun.source.tree.MethodInvocationTree;
import com.sun.source.tree.MethodTree;
import com.sun.source.tree.NewArrayTree;
import com.sun.source.tree.NewClassTree;
import com.sun.source.tree.Tree;
import com.sun.source.tree.TypeCastTree;
import com.sun.source.tree.VariableTree;
import com.sun.source.util.JavacTask;
import com.sun.source.util.SourcePositions;
import com.sun.source.util.TreePath;
import com.sun.source.util.TreePathScanner;
import com.sun.source.util.Trees;
import java.io.IOException;
import java.nio.file.Path;
import java.util.ArrayList;
import java.util.EnumSet;
import java.util.List;
import java.util.Map;
import java.util.Set;
import java.util.TreeMap;
import java.util.TreeSet;
import javax.lang.model.element.Element;
import javax.lang.model.element.Modifier;
import javax.lang.model.type.TypeKind;
import javax.tools.JavaCompiler;
import javax.tools.StandardJavaFileManager;
import javax.tools.ToolProvider;

/** LANGUAGE.md: what the compiler's own view of the class can tell of its rules. */
final class LanguageTest extends TreePathScanner<Void, Void> {
    private static final Path SOURCE = Path.of("src/main/java/PostShares.java");
    /** Rules 2 and 6: what must not stand in it at all. */
    private static final Set<Tree.Kind> RULED_OUT = EnumSet.of(Tree.Kind.THROW, Tree.Kind.TRY, Tree.Kind.CATCH,
        Tree.Kind.SYNCHRONIZED, Tree.Kind.ASSERT, Tree.Kind.LAMBDA_EXPRESSION, Tree.Kind.MEMBER_REFERENCE);
    /** Rule 4: what of the library is used; all of it is listed there. */
    private static final Set<String> LIBRARY = Set.of("java.util.Arrays.fill", "java.lang.System.arraycopy",
        "java.lang.Math.min", "java.lang.Math.max", "java.lang.Integer.bitCount", "java.lang.Object.<init>");
    /** Rule 8: the only methods that call one another; they carry their depth. */
    private static final Set<String> RECURSIVE = Set.of("Foresight.outcome", "Foresight.ifTaken");
    private static final int DEPTH = 8;
    private static final int LINES = 60;
    private static final int PARAMETERS = 7;
    private static final int CLASSES = 12;
    private static final int FIELDS = 20;

    private final Map<String, TreeSet<String>> calls = new TreeMap<>();
    private final List<String> found = new ArrayList<>();
    private Trees trees;
    private CompilationUnitTree unit;
    private int classes = 0;

    public static void main(String[] args) throws IOException {
        LanguageTest test = new LanguageTest();
        test.look();
        Desk.check("against LANGUAGE.md", test.found.toString(), "[]");
        Desk.check("methods seen", test.calls.size() > 80, true);
        Desk.check("classes seen", test.classes, 5);
        test.dueDepth();
        Desk.end();
    }

    private void look() throws IOException {
        JavaCompiler compiler = ToolProvider.getSystemJavaCompiler();
        try (StandardJavaFileManager files = compiler.getStandardFileManager(null, null, null)) {
            JavacTask task = (JavacTask) compiler.getTask(null, files, null, List.of("-proc:none"), null,
                files.getJavaFileObjects(SOURCE));
            trees = Trees.instance(task);
            for (CompilationUnitTree parsed : task.parse()) {
                unit = parsed;
            }
            task.analyze();
            scan(unit, null);
        }
    }

    private void against(int rule, String what, Tree tree) {
        long line = unit.getLineMap().getLineNumber(trees.getSourcePositions().getStartPosition(unit, tree));
        found.add("rule " + rule + ", line " + line + ": " + what);
    }

    @Override
    public Void scan(Tree tree, Void nothing) {
        if (tree != null && RULED_OUT.contains(tree.getKind())) {
            against(6, tree.getKind().toString(), tree);
        }
        return super.scan(tree, nothing);
    }

    @Override
    public Void visitClass(ClassTree tree, Void nothing) {
        classes++;
        int fields = 0;
        for (Tree member : tree.getMembers()) {
            if (member.getKind() == Tree.Kind.BLOCK) {
                against(5, "an initialiser block", member);
            }
            if (member instanceof VariableTree field) {
                Set<Modifier> modifiers = field.getModifiers().getFlags();
                if (!modifiers.contains(Modifier.STATIC)) {
                    fields++;
                } else if (!modifiers.contains(Modifier.FINAL)) {
                    against(5, "a static field that is not final", field);
                } else if (!field.getType().toString().matches("int|long|boolean|char|String|(int|long|char|byte)\\[\\]")) {
                    against(5, "a static field of another type", field);
                }
            }
        }
        if (fields > FIELDS) {
            against(11, fields + " fields", tree);
        }
        if (classes > CLASSES) {
            against(11, classes + " classes", tree);
        }
        Set<Modifier> modifiers = tree.getModifiers().getFlags();
        if (classes > 1 && !modifiers.containsAll(Set.of(Modifier.PRIVATE, Modifier.STATIC))) {
            against(2, "a class inside that is not private and static", tree);
        }
        return super.visitClass(tree, nothing);
    }

    @Override
    public Void visitMethod(MethodTree tree, Void nothing) {
        calls.putIfAbsent(named(trees.getElement(getCurrentPath())), new TreeSet<>());
        SourcePositions places = trees.getSourcePositions();
        long first = unit.getLineMap().getLineNumber(Math.max(0, places.getStartPosition(unit, tree)));
        long last = unit.getLineMap().getLineNumber(Math.max(0, places.getEndPosition(unit, tree)));
        if (last - first + 1 > LINES) {
            against(11, tree.getName() + " is " + (last - first + 1) + " lines long", tree);
        }
        if (tree.getParameters().size() > PARAMETERS) {
            against(11, tree.getName() + " has " + tree.getParameters().size() + " parameters", tree);
        }
        return super.visitMethod(tree, nothing);
    }

    @Override
    public Void visitMethodInvocation(MethodInvocationTree tree, Void nothing) {
        call(trees.getElement(getCurrentPath()), tree);
        return super.visitMethodInvocation(tree, nothing);
    }

    @Override
    public Void visitNewClass(NewClassTree tree, Void nothing) {
        call(trees.getElement(getCurrentPath()), tree);
        if (tree.getClassBody() != null) {
            against(2, "a class without a name", tree);
        }
        return super.visitNewClass(tree, nothing);
    }

    @Override
    public Void visitNewArray(NewArrayTree tree, Void nothing) {
        if (method() != null && !method().getName().contentEquals("<init>")) {
            against(12, "a row that is made in a call", tree);
        }
        return super.visitNewArray(tree, nothing);
    }

    /** Casts among numbers need no test; there are no others. */
    @Override
    public Void visitTypeCast(TypeCastTree tree, Void nothing) {
        if (!tree.getType().toString().matches("int|long|short|byte|char")) {
            against(6, "a cast to " + tree.getType(), tree);
        }
        return super.visitTypeCast(tree, nothing);
    }

    /** A divisor must be a constant, which the compiler knows not to be 0. */
    @Override
    public Void visitBinary(BinaryTree tree, Void nothing) {
        if (tree.getKind() == Tree.Kind.DIVIDE || tree.getKind() == Tree.Kind.REMAINDER) {
            Element divisor = trees.getElement(new TreePath(getCurrentPath(), tree.getRightOperand()));
            if (divisor == null || !divisor.getModifiers().containsAll(Set.of(Modifier.STATIC, Modifier.FINAL))) {
                against(7, "a divisor that is no constant", tree);
            }
        }
        if (trees.getTypeMirror(getCurrentPath()).getKind() == TypeKind.DECLARED) {
            against(10, "texts joined by +", tree);
        }
        return super.visitBinary(tree, nothing);
    }

    @Override
    public Void visitAssignment(AssignmentTree tree, Void nothing) {
        changed(tree.getVariable());
        return super.visitAssignment(tree, nothing);
    }

    private void changed(Tree variable) {
        Element element = trees.getElement(new TreePath(getCurrentPath(), variable));
        if (element != null && element.getModifiers().contains(Modifier.STATIC)) {
            against(5, "a static field that is changed", variable);
        }
    }

    private MethodTree method() {
        for (TreePath path = getCurrentPath(); path != null; path = path.getParentPath()) {
            if (path.getLeaf() instanceof MethodTree method) {
                return method;
            }
        }
        return null;
    }

    private void call(Element called, Tree tree) {
        String owner = called.getEnclosingElement().toString();
        if (!owner.startsWith("PostShares")) {
            String name = owner + "." + called.getSimpleName();
            if (!LIBRARY.contains(name)) {
                against(4, name, tree);
            }
            return;
        }
        MethodTree from = method();
        if (from != null) {
            String caller = named(trees.getElement(trees.getPath(unit, from)));
            calls.computeIfAbsent(caller, key -> new TreeSet<>()).add(named(called));
        }
    }

    private static String named(Element method) {
        return method.getEnclosingElement().getSimpleName() + "." + method.getSimpleName();
    }

    private void dueDepth() {
        int deepest = 0;
        for (String method : calls.keySet()) {
            deepest = Math.max(deepest, depth(method, new ArrayList<>()));
        }
        Desk.check("rule 11: calls go at most " + DEPTH + " deep, not " + deepest, deepest <= DEPTH, true);
    }

    /** A method that calls itself through others counts once; only the two that carry a depth may. */
    private int depth(String method, List<String> open) {
        if (open.contains(method)) {
            Desk.check("rule 8: " + method + " may call itself through others", RECURSIVE.contains(method), true);
            return 0;
        }
        List<String> now = new ArrayList<>(open);
        now.add(method);
        int most = 0;
        for (String called : calls.getOrDefault(method, new TreeSet<>())) {
            most = Math.max(most, depth(called, now));
        }
        return 1 + most;
    }
}
