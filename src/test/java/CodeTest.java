import com.sun.source.tree.AssertTree;
import com.sun.source.tree.AssignmentTree;
import com.sun.source.tree.BinaryTree;
import com.sun.source.tree.BindingPatternTree;
import com.sun.source.tree.ClassTree;
import com.sun.source.tree.CompilationUnitTree;
import com.sun.source.tree.CompoundAssignmentTree;
import com.sun.source.tree.ExpressionTree;
import com.sun.source.tree.LambdaExpressionTree;
import com.sun.source.tree.LiteralTree;
import com.sun.source.tree.MemberReferenceTree;
import com.sun.source.tree.MethodInvocationTree;
import com.sun.source.tree.MethodTree;
import com.sun.source.tree.NewArrayTree;
import com.sun.source.tree.NewClassTree;
import com.sun.source.tree.SynchronizedTree;
import com.sun.source.tree.ThrowTree;
import com.sun.source.tree.Tree;
import com.sun.source.tree.TryTree;
import com.sun.source.tree.TypeCastTree;
import com.sun.source.tree.UnaryTree;
import com.sun.source.tree.VariableTree;
import com.sun.source.util.JavacTask;
import com.sun.source.util.TreePath;
import com.sun.source.util.TreePathScanner;
import com.sun.source.util.Trees;
import java.io.IOException;
import java.nio.file.Path;
import java.util.HashMap;
import java.util.HashSet;
import java.util.List;
import java.util.Map;
import java.util.Set;
import javax.lang.model.element.Element;
import javax.lang.model.element.ElementKind;
import javax.lang.model.element.ExecutableElement;
import javax.lang.model.element.Modifier;
import javax.lang.model.type.TypeMirror;
import javax.tools.JavaCompiler;
import javax.tools.StandardJavaFileManager;
import javax.tools.ToolProvider;

/** LANGUAGE.md as the compiler's own tree shows it; its argument is the path of NineDays.java. */
public final class CodeTest extends TreePathScanner<Void, Void> {
    private static final Set<String> TYPES = Set.of("int", "long", "boolean", "char", "int[]", "boolean[]", "String");
    private static final Set<String> LIBRARY = Set.of("Math.min(int,int)", "Math.max(int,int)", "Math.abs(int)",
        "Arrays.fill(int[],int)", "System.arraycopy(Object,int,Object,int,int)", "String.length()", "String.charAt(int)",
        "Object.Object()");
    private static final Set<Tree.Kind> ARITHMETIC = Set.of(Tree.Kind.PLUS, Tree.Kind.MINUS, Tree.Kind.MULTIPLY);
    private static final Set<Tree.Kind> CHANGES = Set.of(Tree.Kind.POSTFIX_INCREMENT, Tree.Kind.POSTFIX_DECREMENT,
        Tree.Kind.PREFIX_INCREMENT, Tree.Kind.PREFIX_DECREMENT);
    /** Rule 11: calls that are no recursion go at most eight deep. */
    private static final int DEEPEST = 8;

    private final Trees trees;
    private final Map<Element, Set<Element>> callees = new HashMap<>();
    private final Set<Element> open = new HashSet<>();
    private final Map<Element, Integer> depths = new HashMap<>();

    private CodeTest(Trees trees) {
        this.trees = trees;
    }

    public static void main(String[] args) throws IOException {
        JavaCompiler compiler = ToolProvider.getSystemJavaCompiler();
        try (StandardJavaFileManager files = compiler.getStandardFileManager(null, null, null)) {
            JavacTask task = (JavacTask) compiler.getTask(null, files, null, List.of("-proc:none"), null,
                files.getJavaFileObjects(Path.of(args[0])));
            Iterable<? extends CompilationUnitTree> units = task.parse();
            task.analyze();
            CodeTest test = new CodeTest(Trees.instance(task));
            for (CompilationUnitTree unit : units) test.scan(unit, null);
            test.depthOfAll();
        }
        Check.end();
    }

    private static String plain(Object name) {
        return name.toString().replaceAll("[a-z]+\\.(?=[a-zA-Z])", "");
    }

    private void never(String what, Tree tree) {
        Check.due(what + ": " + tree, true, false);
    }

    // ---- rules 2, 6: what may not stand

    @Override
    public Void visitLambdaExpression(LambdaExpressionTree tree, Void none) {
        never("a lambda", tree);
        return super.visitLambdaExpression(tree, none);
    }

    @Override
    public Void visitMemberReference(MemberReferenceTree tree, Void none) {
        never("a method reference", tree);
        return super.visitMemberReference(tree, none);
    }

    @Override
    public Void visitThrow(ThrowTree tree, Void none) {
        never("throw", tree);
        return super.visitThrow(tree, none);
    }

    @Override
    public Void visitTry(TryTree tree, Void none) {
        never("try", tree);
        return super.visitTry(tree, none);
    }

    @Override
    public Void visitSynchronized(SynchronizedTree tree, Void none) {
        never("synchronized", tree);
        return super.visitSynchronized(tree, none);
    }

    @Override
    public Void visitAssert(AssertTree tree, Void none) {
        never("assert", tree);
        return super.visitAssert(tree, none);
    }

    @Override
    public Void visitBindingPattern(BindingPatternTree tree, Void none) {
        never("a pattern", tree);
        return super.visitBindingPattern(tree, none);
    }

    /** Casts among numbers alone: one of an object could fail. */
    @Override
    public Void visitTypeCast(TypeCastTree tree, Void none) {
        Check.due("a cast to a number: " + tree, type(tree.getType()).getKind().isPrimitive(), true);
        return super.visitTypeCast(tree, none);
    }

    @Override
    public Void visitClass(ClassTree tree, Void none) {
        Tree around = getCurrentPath().getParentPath().getLeaf();
        boolean outer = around instanceof CompilationUnitTree;
        Check.due("a class in a class: " + tree.getSimpleName(), outer || around instanceof ClassTree, true);
        Set<Modifier> modifiers = tree.getModifiers().getFlags();
        Check.due("static: " + tree.getSimpleName(), outer || modifiers.contains(Modifier.STATIC), true);
        for (Tree member : tree.getMembers()) Check.due("no block of its own", member.getKind() == Tree.Kind.BLOCK, false);
        return super.visitClass(tree, none);
    }

    // ---- rules 3, 5: types, static fields

    @Override
    public Void visitVariable(VariableTree tree, Void none) {
        Element element = trees.getElement(getCurrentPath());
        String name = plain(element.asType());
        boolean own = name.startsWith("NineDays.") || element.asType().toString().startsWith("NineDays.");
        Check.due("a type that may stand: " + tree, own || TYPES.contains(name), true);
        if (element.getModifiers().contains(Modifier.STATIC)) {
            Check.due("final: " + tree, element.getModifiers().contains(Modifier.FINAL), true);
            Check.due("written out: " + tree, writtenOut(tree.getInitializer(), name.endsWith("[]")), true);
        }
        return super.visitVariable(tree, none);
    }

    private static boolean writtenOut(ExpressionTree value, boolean row) {
        return row ? value instanceof NewArrayTree made && made.getInitializers() != null : value != null;
    }

    @Override
    public Void visitAssignment(AssignmentTree tree, Void none) {
        notStatic(tree.getVariable());
        return super.visitAssignment(tree, none);
    }

    @Override
    public Void visitCompoundAssignment(CompoundAssignmentTree tree, Void none) {
        notStatic(tree.getVariable());
        boolean divides = tree.getKind() == Tree.Kind.DIVIDE_ASSIGNMENT || tree.getKind() == Tree.Kind.REMAINDER_ASSIGNMENT;
        Check.due("no division in passing: " + tree, divides, false);
        return super.visitCompoundAssignment(tree, none);
    }

    @Override
    public Void visitUnary(UnaryTree tree, Void none) {
        if (CHANGES.contains(tree.getKind())) notStatic(tree.getExpression());
        return super.visitUnary(tree, none);
    }

    private void notStatic(ExpressionTree variable) {
        String head = variable.toString().replaceAll("\\[.*", "");
        Check.due("never changed: " + variable, head.matches("[A-Z_]+"), false);
    }

    /** No text is joined by +, no two texts or objects are compared, and what divides is a constant or tested in its line. */
    @Override
    public Void visitBinary(BinaryTree tree, Void none) {
        boolean numbers = type(tree.getLeftOperand()).getKind().isPrimitive() && type(tree.getRightOperand()).getKind().isPrimitive();
        Tree.Kind kind = tree.getKind();
        if (ARITHMETIC.contains(kind) || kind == Tree.Kind.EQUAL_TO || kind == Tree.Kind.NOT_EQUAL_TO) {
            Check.due("of numbers: " + tree, numbers, true);
        }
        if (kind == Tree.Kind.DIVIDE || kind == Tree.Kind.REMAINDER) {
            String by = tree.getRightOperand().toString();
            Tree statement = getCurrentPath().getParentPath().getLeaf();
            for (TreePath p = getCurrentPath(); p != null && !(statement instanceof VariableTree); p = p.getParentPath()) {
                statement = p.getLeaf();
                if (statement.getKind() == Tree.Kind.RETURN) break;
            }
            boolean tested = statement.toString().contains(by + " == 0 ?") || statement.toString().contains(by + " <= 0 ?");
            Check.due("a divisor that cannot be 0: " + tree, tested || by.matches("[A-Z_]+|[1-9]\\d*"), true);
        }
        return super.visitBinary(tree, none);
    }

    private TypeMirror type(Tree tree) {
        return trees.getTypeMirror(new TreePath(getCurrentPath(), tree));
    }

    // ---- rules 4, 8, 11, 12: who calls whom, what is made

    @Override
    public Void visitMethod(MethodTree tree, Void none) {
        callees.computeIfAbsent(trees.getElement(getCurrentPath()), e -> new HashSet<>());
        return super.visitMethod(tree, none);
    }

    @Override
    public Void visitMethodInvocation(MethodInvocationTree tree, Void none) {
        calls(trees.getElement(getCurrentPath()), tree);
        return super.visitMethodInvocation(tree, none);
    }

    @Override
    public Void visitNewClass(NewClassTree tree, Void none) {
        Check.due("made with the object: " + tree, caller() == null || caller().getKind() == ElementKind.CONSTRUCTOR, true);
        Check.due("without a body of its own: " + tree, tree.getClassBody() == null, true);
        calls(trees.getElement(getCurrentPath()), tree);
        return super.visitNewClass(tree, none);
    }

    @Override
    public Void visitNewArray(NewArrayTree tree, Void none) {
        Check.due("made with the object: " + tree, caller() == null || caller().getKind() == ElementKind.CONSTRUCTOR, true);
        return super.visitNewArray(tree, none);
    }

    @Override
    public Void visitLiteral(LiteralTree tree, Void none) {
        Check.due("no null: a reference that is never null need not be tested", tree.getKind() == Tree.Kind.NULL_LITERAL, false);
        return super.visitLiteral(tree, none);
    }

    private Element caller() {
        for (TreePath p = getCurrentPath(); p != null; p = p.getParentPath()) {
            if (p.getLeaf() instanceof MethodTree) return trees.getElement(p);
        }
        return null;
    }

    private void calls(Element called, Tree tree) {
        if (caller() != null) callees.computeIfAbsent(caller(), e -> new HashSet<>()).add(called);
        if (!own(called)) Check.due("of the library: " + tree + " " + signature(called), LIBRARY.contains(signature(called)), true);
    }

    private static boolean own(Element method) {
        return method.getEnclosingElement().toString().startsWith("NineDays");
    }

    private static String signature(Element method) {
        StringBuilder text = new StringBuilder(method.getEnclosingElement().getSimpleName()).append('.');
        boolean made = method.getKind() == ElementKind.CONSTRUCTOR;
        text.append(made ? method.getEnclosingElement().getSimpleName() : method.getSimpleName()).append('(');
        String comma = "";
        for (Element p : ((ExecutableElement) method).getParameters()) {
            text.append(comma).append(plain(p.asType()));
            comma = ",";
        }
        return text.append(')').toString();
    }

    private void depthOfAll() {
        Check.due("methods were seen", callees.size() > 60, true);
        for (Element method : List.copyOf(callees.keySet())) {
            Check.due("calls from " + signature(method) + " on go eight deep at most", depth(method) <= DEEPEST, true);
        }
    }

    /** How many calls stand open at once from this one on; a method that comes back to itself is told. */
    private int depth(Element method) {
        if (depths.containsKey(method)) return depths.get(method);
        Check.due("no recursion: " + signature(method), open.add(method), true);
        int most = 0;
        for (Element called : callees.getOrDefault(method, Set.of())) {
            if (!open.contains(called)) most = Math.max(most, depth(called));
            else Check.due("no recursion: " + signature(called), true, false);
        }
        open.remove(method);
        depths.put(method, most + 1);
        return most + 1;
    }
}
