import com.sun.source.tree.BinaryTree;
import com.sun.source.tree.CompilationUnitTree;
import com.sun.source.tree.CompoundAssignmentTree;
import com.sun.source.tree.LambdaExpressionTree;
import com.sun.source.tree.MemberReferenceTree;
import com.sun.source.tree.MethodInvocationTree;
import com.sun.source.tree.MethodTree;
import com.sun.source.tree.NewArrayTree;
import com.sun.source.tree.NewClassTree;
import com.sun.source.tree.ThrowTree;
import com.sun.source.tree.Tree;
import com.sun.source.tree.TryTree;
import com.sun.source.tree.TypeCastTree;
import com.sun.source.tree.VariableTree;
import com.sun.source.util.JavacTask;
import com.sun.source.util.TreePath;
import com.sun.source.util.TreePathScanner;
import com.sun.source.util.Trees;
import java.util.ArrayList;
import java.util.HashMap;
import java.util.LinkedHashMap;
import java.util.List;
import java.util.Map;
import java.util.Set;
import java.util.TreeSet;
import javax.lang.model.element.Element;
import javax.lang.model.element.ExecutableElement;
import javax.lang.model.type.TypeMirror;
import javax.tools.JavaCompiler;
import javax.tools.StandardJavaFileManager;
import javax.tools.ToolProvider;

/** What of LANGUAGE.md shows in the program as javac reads it: what it calls and how deep, what it makes, its types and casts. */
public final class CallsTest extends TreePathScanner<Void, Void> {
    private static final Set<String> LIBRARY = Set.of("java.lang.Math.min(int,int)", "java.lang.Math.max(int,int)",
        "java.lang.Math.min(long,long)", "java.lang.Math.max(long,long)", "java.lang.String.indexOf(int)",
        "java.lang.System.arraycopy(java.lang.Object,int,java.lang.Object,int,int)");
    private static final Set<String> TYPES = Set.of("int", "long", "boolean", "int[]", "int[][]", "long[]", "java.lang.String");
    private static final Set<String> CASTS = Set.of("int", "long", "char");
    private static final int DEEPEST = 8;

    private final Trees trees;
    private final Map<String, Set<String>> calls = new LinkedHashMap<>();
    private final Map<String, ExecutableElement> methods = new HashMap<>();
    private final List<String> wrong = new ArrayList<>();
    private String method = "";

    private CallsTest(Trees trees) { this.trees = trees; }

    public static void main(String[] args) throws Exception {
        JavaCompiler javac = ToolProvider.getSystemJavaCompiler();
        StandardJavaFileManager files = javac.getStandardFileManager(null, null, null);
        JavacTask task = (JavacTask) javac.getTask(null, files, null, List.of("-proc:none"), null,
            files.getJavaFileObjects("src/main/java/MadeWhere.java"));
        CompilationUnitTree unit = task.parse().iterator().next();
        task.analyze();
        CallsTest test = new CallsTest(Trees.instance(task));
        test.scan(unit, null);
        test.depths();
        for (String w : test.wrong) System.out.println(w);
        System.out.println(test.calls.size() + " methods, " + test.wrong.size() + " faults");
        if (!test.wrong.isEmpty() || test.calls.size() < 40) System.exit(1);
    }

    private void no(boolean found, Tree what) {
        if (found) wrong.add("in " + method + ": " + what.toString().replaceAll("\\s+", " "));
    }

    private TypeMirror type(Tree of) { return trees.getTypeMirror(new TreePath(getCurrentPath(), of)); }

    private static String name(Element e) { return e.getEnclosingElement() + "." + e; }

    private static boolean isOurs(String name) { return name.startsWith("MadeWhere"); }

    /** What comes with the object may be made; a call makes nothing but an exception. */
    private boolean isInCall() { return !method.isEmpty() && !method.contains(".MadeWhere(") && !method.matches(".*\\.(\\w+)\\.\\1\\(.*"); }

    @Override public Void visitMethod(MethodTree tree, Void v) {
        ExecutableElement e = (ExecutableElement) trees.getElement(getCurrentPath());
        String before = method;
        method = name(e);
        calls.put(method, new TreeSet<>());
        methods.put(method, e);
        super.visitMethod(tree, v);
        method = before;
        return null;
    }

    @Override public Void visitMethodInvocation(MethodInvocationTree tree, Void v) {
        String called = name(trees.getElement(getCurrentPath()));
        boolean toSuper = called.equals("java.lang.Object.Object()");
        if (!toSuper) {
            no(!isOurs(called) && !LIBRARY.contains(called), tree);
            no(method.isEmpty(), tree);
            if (!method.isEmpty()) calls.get(method).add(called);
        }
        return super.visitMethodInvocation(tree, v);
    }

    @Override public Void visitNewClass(NewClassTree tree, Void v) {
        boolean isThrown = getCurrentPath().getParentPath().getLeaf() instanceof ThrowTree;
        no(isThrown && !type(tree).toString().equals("java.util.NoSuchElementException"), tree);
        no(!isThrown && (isInCall() || !isOurs(type(tree).toString())), tree);
        return super.visitNewClass(tree, v);
    }

    @Override public Void visitNewArray(NewArrayTree tree, Void v) {
        no(isInCall() || !TYPES.contains(type(tree).toString()), tree);
        return super.visitNewArray(tree, v);
    }

    @Override public Void visitVariable(VariableTree tree, Void v) {
        String t = trees.getTypeMirror(getCurrentPath()).toString();
        no(!TYPES.contains(t) && !isOurs(t), tree);
        return super.visitVariable(tree, v);
    }

    @Override public Void visitTypeCast(TypeCastTree tree, Void v) {
        no(!CASTS.contains(tree.getType().toString()), tree);
        return super.visitTypeCast(tree, v);
    }

    @Override public Void visitBinary(BinaryTree tree, Void v) {
        no(!type(tree.getLeftOperand()).getKind().isPrimitive() || !type(tree.getRightOperand()).getKind().isPrimitive(), tree);
        divides(tree, tree.getRightOperand());
        return super.visitBinary(tree, v);
    }

    @Override public Void visitCompoundAssignment(CompoundAssignmentTree tree, Void v) {
        no(!type(tree.getVariable()).getKind().isPrimitive(), tree);
        divides(tree, tree.getExpression());
        return super.visitCompoundAssignment(tree, v);
    }

    /** A divisor is a constant, or a name that the method tests. */
    private void divides(Tree tree, Tree divisor) {
        boolean isDivision = tree.getKind().name().startsWith("DIVIDE") || tree.getKind().name().startsWith("REMAINDER");
        String d = divisor.toString();
        if (!isDivision || d.matches("[1-9]\\d*|[A-Z_]+")) return;
        TreePath at = getCurrentPath();
        while (!(at.getLeaf() instanceof MethodTree)) at = at.getParentPath();
        String body = at.getLeaf().toString();
        no(!body.contains(d + " > 0") && !body.contains(d + " == 0 ?") && !body.contains(d + " = Math.max(1, "), tree);
    }

    @Override public Void visitLambdaExpression(LambdaExpressionTree tree, Void v) { no(true, tree); return null; }

    @Override public Void visitMemberReference(MemberReferenceTree tree, Void v) { no(true, tree); return null; }

    @Override public Void visitTry(TryTree tree, Void v) { no(true, tree); return null; }

    /** Calls that are no recursion go at most eight deep; what calls itself carries its depth. */
    private void depths() {
        for (String m : calls.keySet()) {
            if (reaches(m).contains(m)) {
                boolean carries = methods.get(m).getParameters().stream().anyMatch(p -> p.getSimpleName().contentEquals("depth"));
                if (!carries) wrong.add(m + " calls itself and carries no depth");
            }
            int d = depth(m);
            if (d > DEEPEST) wrong.add(m + " goes " + d + " deep");
        }
    }

    private Set<String> reaches(String from) {
        Set<String> found = new TreeSet<>();
        List<String> open = new ArrayList<>(calls.get(from));
        while (!open.isEmpty()) {
            String m = open.remove(open.size() - 1);
            if (found.add(m) && calls.containsKey(m)) open.addAll(calls.get(m));
        }
        return found;
    }

    /** Methods that call one another count once. */
    private int depth(String from) {
        if (!calls.containsKey(from)) return 1;
        Set<String> ring = new TreeSet<>(Set.of(from));
        for (String m : reaches(from)) if (calls.containsKey(m) && reaches(m).contains(from)) ring.add(m);
        int deepest = 0;
        for (String m : ring)
            for (String called : calls.get(m)) if (!ring.contains(called)) deepest = Math.max(deepest, depth(called));
        return deepest + 1;
    }
}
