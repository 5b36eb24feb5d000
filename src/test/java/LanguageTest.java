import com.sun.source.tree.ArrayAccessTree;
import com.sun.source.tree.AssertTree;
import com.sun.source.tree.AssignmentTree;
import com.sun.source.tree.BinaryTree;
import com.sun.source.tree.BlockTree;
import com.sun.source.tree.ClassTree;
import com.sun.source.tree.CompilationUnitTree;
import com.sun.source.tree.CompoundAssignmentTree;
import com.sun.source.tree.DoWhileLoopTree;
import com.sun.source.tree.ExpressionTree;
import com.sun.source.tree.ForLoopTree;
import com.sun.source.tree.ImportTree;
import com.sun.source.tree.InstanceOfTree;
import com.sun.source.tree.LambdaExpressionTree;
import com.sun.source.tree.LiteralTree;
import com.sun.source.tree.MemberReferenceTree;
import com.sun.source.tree.MethodInvocationTree;
import com.sun.source.tree.MethodTree;
import com.sun.source.tree.NewClassTree;
import com.sun.source.tree.SynchronizedTree;
import com.sun.source.tree.ThrowTree;
import com.sun.source.tree.Tree;
import com.sun.source.tree.TryTree;
import com.sun.source.tree.TypeCastTree;
import com.sun.source.tree.UnaryTree;
import com.sun.source.tree.VariableTree;
import com.sun.source.tree.WhileLoopTree;
import com.sun.source.util.JavacTask;
import com.sun.source.util.TreePath;
import com.sun.source.util.TreePathScanner;
import com.sun.source.util.Trees;
import java.io.IOException;
import java.nio.file.Path;
import java.util.List;
import java.util.Set;
import javax.lang.model.element.Element;
import javax.lang.model.element.ElementKind;
import javax.lang.model.element.ExecutableElement;
import javax.lang.model.element.Modifier;
import javax.lang.model.element.TypeElement;
import javax.lang.model.element.VariableElement;
import javax.lang.model.type.TypeMirror;
import javax.tools.JavaCompiler;
import javax.tools.StandardJavaFileManager;
import javax.tools.ToolProvider;

/** The rules of LANGUAGE.md that can be seen in the source; what is allowed there but not used here is refused as well. */
public final class LanguageTest extends TreePathScanner<Void, Void> {
    private static final Set<String> LIBRARY = Set.of(
        "java.util.ArrayList.add", "java.util.ArrayList.get", "java.util.ArrayList.remove", "java.util.ArrayList.size",
        "java.util.ArrayList.isEmpty", "java.util.ArrayList.clear", "java.util.ArrayList.<init>", "java.lang.Object.<init>",
        "java.lang.Math.min", "java.lang.Math.max", "java.lang.System.arraycopy", "java.util.Arrays.copyOf",
        "java.util.Arrays.fill");
    private static final Set<String> THROWN = Set.of("IllegalArgumentException", "IndexOutOfBoundsException");
    private static final Set<String> CONSTANTS = Set.of("int", "long", "boolean", "char", "java.lang.String", "int[]", "long[]",
        "char[]", "byte[]");
    private static final Set<String> PLAIN = Set.of("int", "long", "short", "byte", "char", "boolean", "java.lang.String",
        "int[]", "long[]", "byte[]", "char[]", "boolean[]");
    private static final Set<Tree.Kind> NUMBERS = Set.of(Tree.Kind.PRIMITIVE_TYPE);
    private static final int MOST_CLASSES = 12;
    private static final int MOST_FIELDS = 20;
    private static final int MOST_LINES = 60;
    private static final int MOST_PARAMETERS = 7;
    private static final int DEEPEST = 8;

    private final Check check = new Check();
    private final CallGraph calls = new CallGraph();
    private final JavacTask task;
    private final Trees trees;
    private CompilationUnitTree unit;
    private int classes = 0;

    private LanguageTest(JavacTask task) {
        this.task = task;
        this.trees = Trees.instance(task);
    }

    public static void main(String[] args) throws IOException {
        Path file = Path.of(System.getProperty("project", "."), "src", "main", "java", "TrustChain.java");
        JavaCompiler compiler = ToolProvider.getSystemJavaCompiler();
        try (StandardJavaFileManager files = compiler.getStandardFileManager(null, null, null)) {
            List<String> options = List.of("-proc:none");
            JavacTask task = (JavacTask) compiler.getTask(null, files, null, options, null, files.getJavaFileObjects(file));
            new LanguageTest(task).run();
        }
    }

    private void run() throws IOException {
        unit = task.parse().iterator().next();
        task.analyze();
        refuse(unit.getPackageName() != null, unit, "a package line");
        scan(unit, null);
        check.yes("at most twelve classes, here " + classes, classes <= MOST_CLASSES);
        check.sameText("methods that call themselves", calls.circle(), "");
        List<String> deepest = calls.deepest();
        if (deepest.size() > DEEPEST) {
            check.tell("rule 11: " + deepest.size() + " calls deep: " + deepest);
        }
        check.end();
    }

    private void refuse(boolean broken, Tree where, String what) {
        if (broken) {
            long at = trees.getSourcePositions().getStartPosition(unit, where);
            check.tell("TrustChain.java:" + unit.getLineMap().getLineNumber(at) + ": " + what);
        }
    }

    private Element element() {
        return trees.getElement(getCurrentPath());
    }

    private TypeMirror type(Tree tree) {
        return trees.getTypeMirror(new TreePath(getCurrentPath(), tree));
    }

    private boolean isText(Tree tree) {
        return String.valueOf(type(tree)).equals("java.lang.String");
    }

    private static boolean isOwn(Element element) {
        return element.toString().equals("TrustChain") || element.toString().startsWith("TrustChain.");
    }

    @Override
    public Void visitImport(ImportTree node, Void none) {
        String name = node.getQualifiedIdentifier().toString();
        refuse(!Set.of("java.util.ArrayList", "java.util.Arrays").contains(name), node, "rule 4: " + name);
        return null;
    }

    @Override
    public Void visitClass(ClassTree node, Void none) {
        classes++;
        Element made = element();
        boolean inside = made.getEnclosingElement() instanceof TypeElement;
        refuse(inside && !made.getModifiers().contains(Modifier.STATIC), node, "rule 1: a class that is not static");
        refuse(made.getKind() != ElementKind.CLASS, node, "an enum, a record or an interface");
        int fields = 0;
        for (Tree member : node.getMembers()) {
            boolean field = member instanceof VariableTree;
            boolean constant = field && ((VariableTree) member).getModifiers().getFlags().contains(Modifier.STATIC);
            fields += field && !constant ? 1 : 0;
            refuse(member instanceof BlockTree, member, "rule 5: a block that is run with the class");
        }
        refuse(fields > MOST_FIELDS, node, "rule 11: " + fields + " fields");
        calls.learn((TypeElement) made, task.getElements());
        return super.visitClass(node, none);
    }

    @Override
    public Void visitMethod(MethodTree node, Void none) {
        refuse(node.getParameters().size() > MOST_PARAMETERS, node, "rule 11: more than seven parameters");
        long from = trees.getSourcePositions().getStartPosition(unit, node);
        long to = trees.getSourcePositions().getEndPosition(unit, node);
        if (to > from) {
            long lines = unit.getLineMap().getLineNumber(to) - unit.getLineMap().getLineNumber(from) + 1;
            refuse(lines > MOST_LINES, node, "rule 11: " + lines + " lines");
        }
        return super.visitMethod(node, none);
    }

    @Override
    public Void visitVariable(VariableTree node, Void none) {
        Element made = element();
        String type = made.asType().toString();
        boolean own = type.startsWith("TrustChain.") || type.matches("java\\.util\\.ArrayList<TrustChain\\.[A-Za-z0-9]+>");
        refuse(!own && !PLAIN.contains(type), node, "rule 3: " + type);
        if (made.getModifiers().contains(Modifier.STATIC)) {
            refuse(!made.getModifiers().contains(Modifier.FINAL), node, "rule 5: not final");
            refuse(!CONSTANTS.contains(type), node, "rule 5: a constant that is a " + type);
        }
        return super.visitVariable(node, none);
    }

    @Override
    public Void visitMethodInvocation(MethodInvocationTree node, Void none) {
        called(node, (ExecutableElement) element());
        return super.visitMethodInvocation(node, none);
    }

    @Override
    public Void visitNewClass(NewClassTree node, Void none) {
        refuse(node.getClassBody() != null, node, "a class without a name");
        boolean thrown = getCurrentPath().getParentPath().getLeaf() instanceof ThrowTree;
        if (!thrown) {
            called(node, (ExecutableElement) element());
        }
        return super.visitNewClass(node, none);
    }

    private void called(Tree node, ExecutableElement method) {
        String owner = method.getEnclosingElement().toString();
        boolean own = isOwn(method.getEnclosingElement());
        String name = owner + "." + method.getSimpleName();
        refuse(!own && !LIBRARY.contains(name), node, "rule 4: " + name);
        calls.add(caller(), method);
    }

    /** What stands outside of all methods is run by the constructors. */
    private Element caller() {
        for (TreePath path = getCurrentPath(); path != null; path = path.getParentPath()) {
            if (path.getLeaf() instanceof MethodTree || path.getLeaf() instanceof ClassTree) {
                return trees.getElement(path);
            }
        }
        throw new IllegalStateException("a call outside of all classes");
    }

    @Override
    public Void visitThrow(ThrowTree node, Void none) {
        boolean stands = node.getExpression() instanceof NewClassTree;
        if (stands) {
            NewClassTree made = (NewClassTree) node.getExpression();
            stands = THROWN.contains(made.getIdentifier().toString()) && made.getArguments().size() <= 1;
            for (ExpressionTree text : made.getArguments()) {
                stands &= text.getKind() == Tree.Kind.STRING_LITERAL;
            }
        }
        refuse(!stands, node, "rule 6: thrown otherwise");
        boolean inFace = caller().getModifiers().contains(Modifier.PUBLIC) && caller().getKind() == ElementKind.METHOD;
        refuse(!inFace, node, "rule 6: thrown outside of the face's methods");
        return super.visitThrow(node, none);
    }

    @Override
    public Void visitBinary(BinaryTree node, Void none) {
        boolean texts = isText(node.getLeftOperand()) || isText(node.getRightOperand());
        refuse(texts, node, "rules 6 and 10: texts joined by + or compared by ==");
        boolean divides = node.getKind() == Tree.Kind.DIVIDE || node.getKind() == Tree.Kind.REMAINDER;
        ExpressionTree by = node.getRightOperand();
        boolean zero = by instanceof LiteralTree && ((LiteralTree) by).getValue().equals(0);
        boolean constant = by instanceof LiteralTree || isConstant(by);
        refuse(divides && (zero || !constant), node, "rule 7: divided by what could be 0");
        return super.visitBinary(node, none);
    }

    private boolean isConstant(Tree tree) {
        Element read = trees.getElement(new TreePath(getCurrentPath(), tree));
        return read instanceof VariableElement && !Integer.valueOf(0).equals(((VariableElement) read).getConstantValue())
            && ((VariableElement) read).getConstantValue() != null;
    }

    @Override
    public Void visitTypeCast(TypeCastTree node, Void none) {
        refuse(!NUMBERS.contains(node.getType().getKind()), node, "rule 6: a cast of a reference");
        return super.visitTypeCast(node, none);
    }

    @Override
    public Void visitLiteral(LiteralTree node, Void none) {
        refuse(node.getKind() == Tree.Kind.NULL_LITERAL, node, "null, which would have to be looked at everywhere");
        return super.visitLiteral(node, none);
    }

    @Override
    public Void visitAssignment(AssignmentTree node, Void none) {
        changed(node.getVariable());
        return super.visitAssignment(node, none);
    }

    @Override
    public Void visitCompoundAssignment(CompoundAssignmentTree node, Void none) {
        changed(node.getVariable());
        return super.visitCompoundAssignment(node, none);
    }

    @Override
    public Void visitUnary(UnaryTree node, Void none) {
        boolean changes = !Set.of(Tree.Kind.UNARY_MINUS, Tree.Kind.UNARY_PLUS, Tree.Kind.LOGICAL_COMPLEMENT,
            Tree.Kind.BITWISE_COMPLEMENT).contains(node.getKind());
        if (changes) {
            changed(node.getExpression());
        }
        return super.visitUnary(node, none);
    }

    private void changed(ExpressionTree target) {
        if (target instanceof ArrayAccessTree) {
            Tree row = ((ArrayAccessTree) target).getExpression();
            Element base = trees.getElement(new TreePath(getCurrentPath(), row));
            boolean constant = base != null && base.getModifiers().contains(Modifier.STATIC);
            refuse(constant, target, "rule 5: a constant row is changed");
        }
    }

    @Override
    public Void visitForLoop(ForLoopTree node, Void none) {
        refuse(node.getCondition() == null, node, "rule 9: a loop without an end");
        return super.visitForLoop(node, none);
    }

    @Override
    public Void visitWhileLoop(WhileLoopTree node, Void none) {
        refuse(!node.getCondition().toString().contains("&&"), node, "rule 9: a loop without a counter against a bound");
        return super.visitWhileLoop(node, none);
    }

    @Override
    public Void visitDoWhileLoop(DoWhileLoopTree node, Void none) {
        refuse(true, node, "rule 9: a loop whose end is looked at last");
        return super.visitDoWhileLoop(node, none);
    }

    @Override
    public Void visitTry(TryTree node, Void none) {
        refuse(true, node, "rule 6: a try");
        return super.visitTry(node, none);
    }

    @Override
    public Void visitLambdaExpression(LambdaExpressionTree node, Void none) {
        refuse(true, node, "rule 2: a lambda");
        return null;
    }

    @Override
    public Void visitMemberReference(MemberReferenceTree node, Void none) {
        refuse(true, node, "rule 2: a method reference");
        return null;
    }

    @Override
    public Void visitSynchronized(SynchronizedTree node, Void none) {
        refuse(true, node, "rule 6: synchronized");
        return null;
    }

    @Override
    public Void visitAssert(AssertTree node, Void none) {
        refuse(true, node, "rule 6: assert");
        return null;
    }

    @Override
    public Void visitInstanceOf(InstanceOfTree node, Void none) {
        refuse(true, node, "instanceof");
        return null;
    }
}
