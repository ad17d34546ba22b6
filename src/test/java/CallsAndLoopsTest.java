import com.sun.source.tree.ArrayAccessTree;
import com.sun.source.tree.AssignmentTree;
import com.sun.source.tree.BinaryTree;
import com.sun.source.tree.CompilationUnitTree;
import com.sun.source.tree.CompoundAssignmentTree;
import com.sun.source.tree.DoWhileLoopTree;
import com.sun.source.tree.EnhancedForLoopTree;
import com.sun.source.tree.ExpressionTree;
import com.sun.source.tree.ForLoopTree;
import com.sun.source.tree.InstanceOfTree;
import com.sun.source.tree.LiteralTree;
import com.sun.source.tree.MethodInvocationTree;
import com.sun.source.tree.MethodTree;
import com.sun.source.tree.NewClassTree;
import com.sun.source.tree.Tree;
import com.sun.source.tree.TypeCastTree;
import com.sun.source.tree.VariableTree;
import com.sun.source.tree.WhileLoopTree;
import com.sun.source.util.JavacTask;
import com.sun.source.util.TreePathScanner;
import com.sun.source.util.Trees;
import java.io.IOException;
import java.util.ArrayDeque;
import java.util.Deque;
import java.util.List;
import java.util.Map;
import java.util.Set;
import java.util.TreeMap;
import java.util.TreeSet;
import javax.lang.model.element.Element;
import javax.lang.model.element.Modifier;
import javax.lang.model.element.VariableElement;
import javax.lang.model.type.TypeKind;
import javax.tools.JavaCompiler;
import javax.tools.StandardJavaFileManager;
import javax.tools.ToolProvider;

/**
 * The rules of LANGUAGE.md that can be seen in the tree that the compiler makes of the class: what of the library is
 * called (4), what static fields hold (5), casts (6), divisors (7), no recursion (8), loops (9), how deep calls go (11).
 */
public final class CallsAndLoopsTest extends TreePathScanner<Void, Void> {
    private static final Set<String> LIBRARY = Set.of("java.util.ArrayList.add", "java.util.ArrayList.get",
        "java.util.ArrayList.size", "java.util.ArrayList.<init>", "java.lang.Math.max", "java.lang.Math.min",
        "java.lang.Long.numberOfLeadingZeros", "java.lang.Object.<init>");
    private static final int MOST_DEEP = 8;

    private final Trees trees;
    private final Map<String, Set<String>> calls = new TreeMap<>();
    private final Map<String, Integer> depths = new TreeMap<>();
    private final Deque<String> standing = new ArrayDeque<>();
    private String method = "";
    private int loops;

    private CallsAndLoopsTest(Trees trees) {
        this.trees = trees;
    }

    public static void main(String[] args) throws IOException {
        JavaCompiler compiler = ToolProvider.getSystemJavaCompiler();
        try (StandardJavaFileManager files = compiler.getStandardFileManager(null, null, null)) {
            JavacTask task = (JavacTask) compiler.getTask(null, files, null, List.of("-proc:none"), null,
                files.getJavaFileObjects("src/main/java/HandleMirror.java"));
            CompilationUnitTree unit = task.parse().iterator().next();
            task.analyze();
            CallsAndLoopsTest test = new CallsAndLoopsTest(Trees.instance(task));
            test.scan(unit, null);
            test.deep();
        }
        Check.end("CallsAndLoopsTest");
    }

    private void deep() {
        Check.due("the tree was read", calls.size() > 100 && loops > 20 ? 1 : 0, 1);
        for (String name : calls.keySet()) {
            int depth = depth(name);
            Check.due(name + " goes eight deep at most, not " + depth, depth <= MOST_DEEP ? 1 : 0, 1);
        }
    }

    /** How many calls stand open at once below a method, and it. */
    private int depth(String name) {
        Check.due("no recursion: " + name + " in " + standing, standing.contains(name) ? 1 : 0, 0);
        if (standing.contains(name)) return 0;
        if (depths.containsKey(name)) return depths.get(name);
        standing.push(name);
        int most = 0;
        for (String called : calls.getOrDefault(name, Set.of())) most = Math.max(most, depth(called));
        standing.pop();
        depths.put(name, most + 1);
        return most + 1;
    }

    private static String nameOf(Element element) {
        return element.getEnclosingElement() + "." + element.getSimpleName();
    }

    @Override
    public Void visitMethod(MethodTree tree, Void none) {
        String around = method;
        method = nameOf(trees.getElement(getCurrentPath()));
        // a method is known by its name here, so no two of a class may share one
        Check.due(method + " stands once", calls.containsKey(method) ? 1 : 0, 0);
        calls.put(method, new TreeSet<>());
        super.visitMethod(tree, none);
        method = around;
        return null;
    }

    @Override
    public Void visitMethodInvocation(MethodInvocationTree tree, Void none) {
        called(trees.getElement(getCurrentPath()));
        return super.visitMethodInvocation(tree, none);
    }

    @Override
    public Void visitNewClass(NewClassTree tree, Void none) {
        called(trees.getElement(getCurrentPath()));
        return super.visitNewClass(tree, none);
    }

    private void called(Element element) {
        String name = nameOf(element);
        if (name.startsWith("HandleMirror")) calls.get(method).add(name);
        else Check.due(name + " is of the library that is left", LIBRARY.contains(name) ? 1 : 0, 1);
    }

    // ---- loops

    @Override
    public Void visitWhileLoop(WhileLoopTree tree, Void none) {
        Check.due("a while in " + method, 1, 0);
        return null;
    }

    @Override
    public Void visitDoWhileLoop(DoWhileLoopTree tree, Void none) {
        Check.due("a do in " + method, 1, 0);
        return null;
    }

    @Override
    public Void visitEnhancedForLoop(EnhancedForLoopTree tree, Void none) {
        Check.due("a for over a list in " + method, 1, 0);
        return null;
    }

    /** A counter of the loop's own, which goes by one towards a bound, and is set nowhere else. */
    @Override
    public Void visitForLoop(ForLoopTree tree, Void none) {
        loops++;
        String start = tree.getInitializer().toString();
        String counter = start.replaceFirst("^int (\\w+) = .*$", "$1");
        String step = tree.getUpdate().toString();
        boolean up = step.startsWith(counter + "++");
        boolean down = step.startsWith(counter + "--");
        String bound = tree.getCondition().toString().replaceFirst(" && .*", "");
        Check.due("one counter: " + start, tree.getInitializer().size(), 1);
        Check.due("it goes by one: " + step, (up || down) && tree.getUpdate().size() == 1 ? 1 : 0, 1);
        Check.due("it has a bound: " + tree.getCondition(), bound.matches(counter + (up ? " <=? .*" : " >=? .*")) ? 1 : 0, 1);
        Check.due("the bound is the first of what has to hold: " + tree.getCondition(),
            tree.getCondition().toString().contains("||") ? 1 : 0, 0);
        String body = tree.getStatement().toString();
        Check.due("it is not set within: " + method, body.matches("(?s).*\\b" + counter + "(\\+\\+|--| [-+*/]?= ).*") ? 1 : 0, 0);
        return super.visitForLoop(tree, none);
    }

    // ---- static fields, casts, divisors

    @Override
    public Void visitVariable(VariableTree tree, Void none) {
        Element element = trees.getElement(getCurrentPath());
        if (element.getModifiers().contains(Modifier.STATIC)) {
            Check.due(tree + " is final", element.getModifiers().contains(Modifier.FINAL) ? 1 : 0, 1);
            boolean constant = ((VariableElement) element).getConstantValue() != null;
            Check.due(tree + " is written out", constant || isRowOfLiterals(tree) ? 1 : 0, 1);
        }
        return super.visitVariable(tree, none);
    }

    private static boolean isRowOfLiterals(VariableTree tree) {
        return tree.getType().toString().matches("(int|long|char|byte)\\[\\]")
            && String.valueOf(tree.getInitializer()).matches("\\{[-\\d, ]*\\}");
    }

    /** Rows that are constants are never changed. */
    @Override
    public Void visitAssignment(AssignmentTree tree, Void none) {
        if (tree.getVariable() instanceof ArrayAccessTree) {
            String row = ((ArrayAccessTree) tree.getVariable()).getExpression().toString();
            Check.due(tree + " changes no constant", row.matches(".*[a-z]\\w*") ? 1 : 0, 1);
        }
        return super.visitAssignment(tree, none);
    }

    @Override
    public Void visitTypeCast(TypeCastTree tree, Void none) {
        Check.due(tree + " is a cast of a number", tree.getType().toString().matches("int|long|byte|short|char") ? 1 : 0, 1);
        return super.visitTypeCast(tree, none);
    }

    @Override
    public Void visitInstanceOf(InstanceOfTree tree, Void none) {
        Check.due(tree + ": nothing is asked by its class", 1, 0);
        return null;
    }

    @Override
    public Void visitBinary(BinaryTree tree, Void none) {
        if (tree.getKind() == Tree.Kind.DIVIDE || tree.getKind() == Tree.Kind.REMAINDER) divides(tree);
        return super.visitBinary(tree, none);
    }

    @Override
    public Void visitCompoundAssignment(CompoundAssignmentTree tree, Void none) {
        boolean divides = tree.getKind() == Tree.Kind.DIVIDE_ASSIGNMENT || tree.getKind() == Tree.Kind.REMAINDER_ASSIGNMENT;
        Check.due(tree + " has a divisor", !divides || tree.getExpression() instanceof LiteralTree ? 1 : 0, 1);
        return super.visitCompoundAssignment(tree, none);
    }

    /** A divisor is written out, or the line asks whether it is 0. */
    private void divides(BinaryTree tree) {
        ExpressionTree divisor = tree.getRightOperand();
        String around = getCurrentPath().getParentPath().getLeaf().toString();
        boolean asked = around.startsWith(divisor + " == 0 ?") || around.startsWith("(" + divisor + " == 0) ?");
        Check.due(tree + " has a divisor", divisor instanceof LiteralTree || asked ? 1 : 0, 1);
        Check.due(tree + " is of whole numbers", trees.getTypeMirror(getCurrentPath()).getKind() == TypeKind.LONG
            || trees.getTypeMirror(getCurrentPath()).getKind() == TypeKind.INT ? 1 : 0, 1);
    }
}
