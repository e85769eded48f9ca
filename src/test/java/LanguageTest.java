import com.sun.source.tree.ArrayAccessTree;
import com.sun.source.tree.AssertTree;
import com.sun.source.tree.BinaryTree;
import com.sun.source.tree.ClassTree;
import com.sun.source.tree.CompilationUnitTree;
import com.sun.source.tree.CompoundAssignmentTree;
import com.sun.source.tree.DoWhileLoopTree;
import com.sun.source.tree.ExpressionTree;
import com.sun.source.tree.ForLoopTree;
import com.sun.source.tree.InstanceOfTree;
import com.sun.source.tree.LambdaExpressionTree;
import com.sun.source.tree.LiteralTree;
import com.sun.source.tree.MemberReferenceTree;
import com.sun.source.tree.MethodInvocationTree;
import com.sun.source.tree.MethodTree;
import com.sun.source.tree.NewArrayTree;
import com.sun.source.tree.NewClassTree;
import com.sun.source.tree.SynchronizedTree;
import com.sun.source.tree.ThrowTree;
import com.sun.source.tree.Tree;
import com.sun.source.tree.TryTree;
import com.sun.source.tree.TypeCastTree;
import com.sun.source.tree.VariableTree;
import com.sun.source.tree.WhileLoopTree;
import com.sun.source.util.JavacTask;
import com.sun.source.util.TreePath;
import com.sun.source.util.TreePathScanner;
import com.sun.source.util.Trees;
import java.io.File;
import java.io.IOException;
import java.util.Arrays;
import java.util.HashMap;
import java.util.HashSet;
import java.util.List;
import java.util.Map;
import java.util.Set;
import javax.lang.model.element.Element;
import javax.lang.model.element.ElementKind;
import javax.lang.model.element.Modifier;
import javax.lang.model.type.ArrayType;
import javax.lang.model.type.TypeKind;
import javax.lang.model.type.TypeMirror;
import javax.tools.JavaCompiler;
import javax.tools.StandardJavaFileManager;
import javax.tools.ToolProvider;

/** What the compiler knows of the class is held against the rules of LANGUAGE.md, and against our own, narrower ones. */
final class LanguageTest extends TreePathScanner<Void, Void> {
    private static final Set<String> LIBRARY = Set.of("java.lang.String.length", "java.lang.String.charAt", "java.lang.Math.min",
            "java.lang.Math.max", "java.lang.Math.floorMod", "java.lang.Integer.bitCount", "java.lang.System.arraycopy");
    private static final Set<String> EXCEPTIONS = Set.of("java.lang.IllegalStateException", "java.lang.IllegalArgumentException",
            "java.lang.IndexOutOfBoundsException", "java.util.NoSuchElementException");

    private final Trees trees;
    private final CompilationUnitTree unit;
    private final Set<Element> classes = new HashSet<>();
    private final Map<Element, Set<Element>> calls = new HashMap<>();
    private final Map<Element, Integer> depths = new HashMap<>();
    private final Set<Element> open = new HashSet<>();
    private int divisions;

    private LanguageTest(Trees trees, CompilationUnitTree unit) {
        this.trees = trees;
        this.unit = unit;
    }

    static void run(String source) throws IOException {
        JavaCompiler compiler = ToolProvider.getSystemJavaCompiler();
        try (StandardJavaFileManager files = compiler.getStandardFileManager(null, null, null)) {
            JavacTask task = (JavacTask) compiler.getTask(null, files, null, List.of("-proc:none"), null,
                    files.getJavaFileObjects(new File(source)));
            CompilationUnitTree unit = task.parse().iterator().next();
            task.analyze();
            LanguageTest test = new LanguageTest(Trees.instance(task), unit);
            test.scan(new TreePath(unit), null);
            test.ends();
        }
    }

    private void ends() {
        Check.yes("rule 11: some twelve classes at most, got " + classes.size(), classes.size() <= 12);
        Check.yes("the compiler showed the class's divisions", divisions > 3);
        int deepest = 0;
        for (Element method : new HashSet<>(calls.keySet())) {
            int depth = depth(method);
            deepest = Math.max(deepest, depth);
            Check.yes("rule 11: calls below " + method + " go " + depth + " deep, 8 at most", depth <= 8);
        }
        Check.yes("the compiler showed the class's calls", deepest > 3);
    }

    /** How deep calls go from a method, itself counted; more than all depths if it comes back to itself. */
    private int depth(Element method) {
        if (depths.containsKey(method)) {
            return depths.get(method);
        }
        if (!open.add(method)) {
            return 1000;
        }
        int deepest = 0;
        for (Element callee : calls.getOrDefault(method, Set.of())) {
            deepest = Math.max(deepest, depth(callee));
        }
        open.remove(method);
        depths.put(method, deepest + 1);
        return deepest + 1;
    }

    private void rule(int rule, Tree tree, boolean holds) {
        long line = unit.getLineMap().getLineNumber(trees.getSourcePositions().getStartPosition(unit, tree));
        String text = tree.toString().trim();
        Check.yes("LANGUAGE.md, rule " + rule + ", line " + line + ": " + text.substring(0, Math.min(90, text.length())), holds);
    }

    private Element element() {
        return trees.getElement(getCurrentPath());
    }

    private TypeMirror type(Tree tree) {
        return trees.getTypeMirror(new TreePath(getCurrentPath(), tree));
    }

    private boolean isText(Tree tree) {
        TypeMirror type = type(tree);
        return type != null && type.toString().equals("java.lang.String");
    }

    private static boolean isOwn(TypeMirror type) {
        String name = type.toString();
        return name.equals("RepairAuction") || name.startsWith("RepairAuction.");
    }

    /** The method around the current tree; null in a field's initialiser. */
    private MethodTree method() {
        for (TreePath path = getCurrentPath(); path != null; path = path.getParentPath()) {
            if (path.getLeaf() instanceof MethodTree) {
                return (MethodTree) path.getLeaf();
            }
        }
        return null;
    }

    private boolean isConstructing() {
        MethodTree method = method();
        return method == null || method.getReturnType() == null;
    }

    @Override
    public Void visitClass(ClassTree tree, Void none) {
        Element type = element();
        classes.add(type);
        boolean outer = type.getEnclosingElement().getKind() == ElementKind.PACKAGE;
        boolean inside = type.getModifiers().contains(Modifier.PRIVATE) && type.getModifiers().contains(Modifier.STATIC);
        rule(2, tree, outer || type.getEnclosingElement().getKind().isClass() && inside);
        int fields = 0;
        for (Tree member : tree.getMembers()) {
            rule(5, tree, member.getKind() != Tree.Kind.BLOCK);
            if (member instanceof VariableTree) {
                Set<Modifier> flags = ((VariableTree) member).getModifiers().getFlags();
                fields += flags.contains(Modifier.STATIC) ? 0 : 1;
                rule(5, member, !flags.contains(Modifier.STATIC) || flags.contains(Modifier.FINAL));
                rule(1, member, !outer || flags.contains(Modifier.PRIVATE) || flags.contains(Modifier.PUBLIC));
            }
        }
        rule(11, tree, fields <= 20);
        return super.visitClass(tree, none);
    }

    @Override
    public Void visitVariable(VariableTree tree, Void none) {
        if (element().getKind() != ElementKind.ENUM_CONSTANT) {
            TypeMirror type = element().asType();
            TypeMirror part = type.getKind() == TypeKind.ARRAY ? ((ArrayType) type).getComponentType() : type;
            rule(3, tree, part.getKind().isPrimitive() || part.toString().equals("java.lang.String") || isOwn(part));
        }
        return super.visitVariable(tree, none);
    }

    @Override
    public Void visitMethod(MethodTree tree, Void none) {
        calls.putIfAbsent(element(), new HashSet<>());
        rule(11, tree, tree.getParameters().size() <= 7);
        long from = unit.getLineMap().getLineNumber(Math.max(0, trees.getSourcePositions().getStartPosition(unit, tree)));
        long to = unit.getLineMap().getLineNumber(Math.max(0, trees.getSourcePositions().getEndPosition(unit, tree)));
        rule(11, tree, to - from < 60);
        String[] names = {"equals", "hashCode", "toString", "finalize", "clone"};
        rule(6, tree, !Arrays.asList(names).contains(tree.getName().toString()));
        return super.visitMethod(tree, none);
    }

    @Override
    public Void visitMethodInvocation(MethodInvocationTree tree, Void none) {
        Element callee = element();
        String name = callee.getEnclosingElement() + "." + callee.getSimpleName();
        if (isOwn(callee.getEnclosingElement().asType())) {
            note(callee);
        } else {
            // super() of an object, and values() of the enum stand here, too.
            rule(4, tree, LIBRARY.contains(name) || callee.getKind() == ElementKind.CONSTRUCTOR);
        }
        return super.visitMethodInvocation(tree, none);
    }

    private void note(Element callee) {
        MethodTree caller = method();
        if (caller != null) {
            Element key = trees.getElement(trees.getPath(unit, caller));
            calls.computeIfAbsent(key, each -> new HashSet<>()).add(callee);
        }
    }

    @Override
    public Void visitNewClass(NewClassTree tree, Void none) {
        rule(2, tree, tree.getClassBody() == null);
        TypeMirror type = trees.getTypeMirror(getCurrentPath());
        boolean thrown = getCurrentPath().getParentPath().getLeaf() instanceof ThrowTree;
        if (isOwn(type)) {
            note(element());
            rule(12, tree, isConstructing());
        } else {
            rule(6, tree, thrown && EXCEPTIONS.contains(type.toString()));
        }
        return super.visitNewClass(tree, none);
    }

    @Override
    public Void visitNewArray(NewArrayTree tree, Void none) {
        rule(12, tree, isConstructing());
        return super.visitNewArray(tree, none);
    }

    @Override
    public Void visitThrow(ThrowTree tree, Void none) {
        rule(6, tree, !isConstructing() && tree.getExpression() instanceof NewClassTree);
        if (tree.getExpression() instanceof NewClassTree) {
            for (ExpressionTree argument : ((NewClassTree) tree.getExpression()).getArguments()) {
                rule(6, tree, argument.getKind() == Tree.Kind.STRING_LITERAL);
            }
        }
        return super.visitThrow(tree, none);
    }

    @Override
    public Void visitBinary(BinaryTree tree, Void none) {
        boolean text = isText(tree.getLeftOperand()) || isText(tree.getRightOperand());
        rule(10, tree, !text);
        boolean divides = tree.getKind() == Tree.Kind.DIVIDE || tree.getKind() == Tree.Kind.REMAINDER;
        if (divides && !type(tree.getRightOperand()).toString().equals("double")) {
            divisions++;
            rule(7, tree, isTestedDivisor(tree.getRightOperand()));
        }
        return super.visitBinary(tree, none);
    }

    /** A number that is written, a constant, or a variable that a condition around the division compares with 0. */
    private boolean isTestedDivisor(ExpressionTree divisor) {
        String name = divisor.toString();
        if (name.matches("[1-9]\\d*|[A-Z_]+")) {
            return true;
        }
        MethodTree method = method();
        return name.matches("[a-z]+") && method != null && method.toString().contains(name + " > 0");
    }

    /** The method must look at the array's length. */
    @Override
    public Void visitArrayAccess(ArrayAccessTree tree, Void none) {
        MethodTree method = method();
        rule(7, tree, method != null && method.toString().contains(tree.getExpression() + ".length"));
        return super.visitArrayAccess(tree, none);
    }

    @Override
    public Void visitForLoop(ForLoopTree tree, Void none) {
        rule(9, tree, tree.getCondition() instanceof BinaryTree);
        return super.visitForLoop(tree, none);
    }

    @Override
    public Void visitWhileLoop(WhileLoopTree tree, Void none) {
        rule(9, tree, tree.getCondition().toString().matches("\\((\\w+) < .*") && tree.getStatement().toString().matches("(?s).*\\w\\+\\+;\\s*\\}"));
        return super.visitWhileLoop(tree, none);
    }

    @Override
    public Void visitDoWhileLoop(DoWhileLoopTree tree, Void none) {
        rule(9, tree, false);
        return super.visitDoWhileLoop(tree, none);
    }

    @Override
    public Void visitCompoundAssignment(CompoundAssignmentTree tree, Void none) {
        rule(10, tree, !isText(tree.getVariable()));
        boolean divides = tree.getKind() == Tree.Kind.DIVIDE_ASSIGNMENT || tree.getKind() == Tree.Kind.REMAINDER_ASSIGNMENT;
        rule(7, tree, !divides || isTestedDivisor(tree.getExpression()));
        return super.visitCompoundAssignment(tree, none);
    }

    @Override
    public Void visitTypeCast(TypeCastTree tree, Void none) {
        rule(6, tree, type(tree.getType()).getKind().isPrimitive());
        return super.visitTypeCast(tree, none);
    }

    @Override
    public Void visitLiteral(LiteralTree tree, Void none) {
        if (tree.getValue() instanceof String) {
            rule(4, tree, ((String) tree.getValue()).chars().allMatch(sign -> sign >= 1 && sign <= 127));
        }
        return super.visitLiteral(tree, none);
    }

    @Override
    public Void visitLambdaExpression(LambdaExpressionTree tree, Void none) {
        rule(2, tree, false);
        return super.visitLambdaExpression(tree, none);
    }

    @Override
    public Void visitMemberReference(MemberReferenceTree tree, Void none) {
        rule(2, tree, false);
        return super.visitMemberReference(tree, none);
    }

    @Override
    public Void visitTry(TryTree tree, Void none) {
        rule(6, tree, false);
        return super.visitTry(tree, none);
    }

    @Override
    public Void visitSynchronized(SynchronizedTree tree, Void none) {
        rule(6, tree, false);
        return super.visitSynchronized(tree, none);
    }

    @Override
    public Void visitAssert(AssertTree tree, Void none) {
        rule(6, tree, false);
        return super.visitAssert(tree, none);
    }

    @Override
    public Void visitInstanceOf(InstanceOfTree tree, Void none) {
        rule(6, tree, false);
        return super.visitInstanceOf(tree, none);
    }
}
