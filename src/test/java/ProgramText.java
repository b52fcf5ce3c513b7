import com.sun.source.tree.AssertTree;
import com.sun.source.tree.BinaryTree;
import com.sun.source.tree.BlockTree;
import com.sun.source.tree.ClassTree;
import com.sun.source.tree.CompilationUnitTree;
import com.sun.source.tree.CompoundAssignmentTree;
import com.sun.source.tree.DoWhileLoopTree;
import com.sun.source.tree.ExpressionTree;
import com.sun.source.tree.ForLoopTree;
import com.sun.source.tree.IdentifierTree;
import com.sun.source.tree.LambdaExpressionTree;
import com.sun.source.tree.LiteralTree;
import com.sun.source.tree.MemberReferenceTree;
import com.sun.source.tree.MethodInvocationTree;
import com.sun.source.tree.MethodTree;
import com.sun.source.tree.NewArrayTree;
import com.sun.source.tree.NewClassTree;
import com.sun.source.tree.ParenthesizedTree;
import com.sun.source.tree.SynchronizedTree;
import com.sun.source.tree.ThrowTree;
import com.sun.source.tree.Tree;
import com.sun.source.tree.Tree.Kind;
import com.sun.source.tree.TryTree;
import com.sun.source.tree.TypeCastTree;
import com.sun.source.tree.VariableTree;
import com.sun.source.tree.WhileLoopTree;
import com.sun.source.util.JavacTask;
import com.sun.source.util.TreePath;
import com.sun.source.util.TreePathScanner;
import com.sun.source.util.Trees;
import java.io.File;
import java.io.IOException;
import java.io.UncheckedIOException;
import java.util.ArrayList;
import java.util.EnumSet;
import java.util.HashSet;
import java.util.List;
import java.util.Set;
import javax.lang.model.element.Element;
import javax.lang.model.element.ElementKind;
import javax.lang.model.element.ExecutableElement;
import javax.lang.model.element.Modifier;
import javax.lang.model.element.TypeElement;
import javax.lang.model.element.VariableElement;
import javax.lang.model.type.TypeKind;
import javax.tools.JavaCompiler;
import javax.tools.ToolProvider;

/**
 * Reads a program by the rules of LANGUAGE.md, and tells where it breaks one. Where the class does
 * with less than a rule leaves (no try, no lists, no recursion, nothing made in a loop, hardly any
 * library), it is held to that less; who needs more loosens it up to what the rule leaves.
 */
final class ProgramText extends TreePathScanner<Void, Void> {
    private static final int MOST_PARAMETERS = 7;
    private static final int MOST_LINES = 60;
    private static final int MOST_CLASSES = 12;
    private static final int MOST_FIELDS = 20;

    private static final Set<String> EXCEPTIONS = Set.of("IllegalStateException",
            "IllegalArgumentException", "IndexOutOfBoundsException", "ArithmeticException",
            "UnsupportedOperationException", "NoSuchElementException", "RuntimeException");
    private static final Set<String> CONSTANTS = Set.of("int", "long", "boolean", "char",
            "java.lang.String", "int[]", "long[]", "char[]", "byte[]");
    private static final Set<Kind> ON_DOUBLES = EnumSet.of(Kind.PLUS, Kind.MINUS, Kind.MULTIPLY,
            Kind.DIVIDE, Kind.LESS_THAN, Kind.LESS_THAN_EQUAL, Kind.GREATER_THAN,
            Kind.GREATER_THAN_EQUAL, Kind.EQUAL_TO, Kind.NOT_EQUAL_TO);

    private final Trees trees;
    private final CompilationUnitTree unit;
    private final CallDepth depth = new CallDepth();
    private final List<String> faults = new ArrayList<>();
    private int classes = 0;

    private ProgramText(Trees trees, CompilationUnitTree unit) {
        this.trees = trees;
        this.unit = unit;
    }

    /** Each place that breaks a rule, with the rule and the line. */
    static List<String> faultsOf(String file) {
        JavaCompiler compiler = ToolProvider.getSystemJavaCompiler();
        try (var files = compiler.getStandardFileManager(null, null, null)) {
            JavacTask task = (JavacTask) compiler.getTask(null, files, null, List.of("-proc:none"),
                    null, files.getJavaFileObjects(new File(file)));
            CompilationUnitTree unit = task.parse().iterator().next();
            task.analyze();
            ProgramText text = new ProgramText(Trees.instance(task), unit);
            text.readAll();
            return text.faults;
        } catch (IOException e) {
            throw new UncheckedIOException(e);
        }
    }

    private void readAll() {
        demand(1, unit, unit.getPackageName() == null, "a package line");
        demand(1, unit, unit.getTypeDecls().size() == 1, "not one class");
        demand(4, unit, unit.getImports().isEmpty(), "an import");
        scan(unit, null);
        demand(11, unit, classes <= MOST_CLASSES, "too many classes");
        for (String tooDeep : depth.faults()) {
            demand(11, unit, false, tooDeep);
        }
    }

    private void demand(int rule, Tree at, boolean holds, String fault) {
        if (!holds) {
            long start = trees.getSourcePositions().getStartPosition(unit, at);
            long line = start < 0 ? 0 : unit.getLineMap().getLineNumber(start);
            faults.add("rule " + rule + ", line " + line + ": " + fault);
        }
    }

    // ---- classes, methods and variables

    @Override
    public Void visitClass(ClassTree tree, Void none) {
        classes++;
        Element type = trees.getElement(getCurrentPath());
        Set<Modifier> marks = type.getModifiers();
        boolean inside = type.getEnclosingElement() instanceof TypeElement;
        boolean open = marks.contains(Modifier.PUBLIC) || marks.contains(Modifier.PROTECTED);
        demand(1, tree, inside != open, "a class too open or too closed");
        demand(2, tree, !inside || marks.contains(Modifier.STATIC), "a class that is not static");
        int fields = 0;
        for (Element member : type.getEnclosedElements()) {
            boolean field = member.getKind() == ElementKind.FIELD;
            fields += field && !member.getModifiers().contains(Modifier.STATIC) ? 1 : 0;
        }
        demand(11, tree, fields <= MOST_FIELDS, "too many fields");
        demand(1, tree, inside || !sharesName(type), "a private method named as a public one");
        return super.visitClass(tree, none);
    }

    private static boolean sharesName(Element type) {
        Set<String> open = new HashSet<>();
        Set<String> closed = new HashSet<>();
        for (Element member : type.getEnclosedElements()) {
            if (member.getKind() == ElementKind.METHOD) {
                boolean isPublic = member.getModifiers().contains(Modifier.PUBLIC);
                (isPublic ? open : closed).add(member.getSimpleName().toString());
            }
        }
        return closed.removeAll(open);
    }

    @Override
    public Void visitMethod(MethodTree tree, Void none) {
        String name = tree.getName().toString();
        boolean ofObjects = Set.of("equals", "hashCode", "toString").contains(name);
        demand(6, tree, !ofObjects, "a method " + name);
        demand(11, tree, tree.getParameters().size() <= MOST_PARAMETERS, "too many parameters");
        demand(11, tree, linesOf(tree) <= MOST_LINES, "too long: " + name);
        depth.addMethod((ExecutableElement) trees.getElement(getCurrentPath()));
        return super.visitMethod(tree, none);
    }

    private long linesOf(Tree tree) {
        long start = trees.getSourcePositions().getStartPosition(unit, tree);
        long end = trees.getSourcePositions().getEndPosition(unit, tree);
        // A constructor that the compiler adds stands nowhere.
        return end < 0 ? 0 : unit.getLineMap().getLineNumber(end)
                - unit.getLineMap().getLineNumber(start) + 1;
    }

    @Override
    public Void visitVariable(VariableTree tree, Void none) {
        VariableElement variable = (VariableElement) trees.getElement(getCurrentPath());
        String type = variable.asType().toString();
        demand(3, tree, isOwnOrNumber(type), "the type " + type);
        if (variable.getModifiers().contains(Modifier.STATIC)) {
            demand(5, tree, variable.getModifiers().contains(Modifier.FINAL), "static, not final");
            demand(5, tree, CONSTANTS.contains(type), "a constant of the type " + type);
        }
        return super.visitVariable(tree, none);
    }

    private static boolean isOwnOrNumber(String type) {
        String bare = type.endsWith("[]") ? type.substring(0, type.length() - 2) : type;
        boolean number = Set.of("int", "long", "short", "byte", "char", "boolean", "double",
                "float", "java.lang.String").contains(bare);
        return number || bare.equals("GooseCodex") || bare.startsWith("GooseCodex.");
    }

    @Override
    public Void visitBlock(BlockTree tree, Void none) {
        demand(5, tree, !tree.isStatic(), "a static initialiser block");
        return super.visitBlock(tree, none);
    }

    // ---- calls and what is made

    @Override
    public Void visitMethodInvocation(MethodInvocationTree tree, Void none) {
        ExecutableElement called = (ExecutableElement) trees.getElement(getCurrentPath());
        if (called.getKind() == ElementKind.METHOD) {
            TreePath caller = upTo(MethodTree.class);
            demand(12, tree, caller != null, "a call ahead of the constructor");
            if (!isOwn(called)) {
                demand(4, tree, isOfLibrary(called), "a call of " + called);
            } else if (caller != null) {
                depth.addCall((ExecutableElement) trees.getElement(caller), called);
            }
        }
        return super.visitMethodInvocation(tree, none);
    }

    private static boolean isOwn(ExecutableElement called) {
        String owner = called.getEnclosingElement().toString();
        return owner.equals("GooseCodex") || owner.startsWith("GooseCodex.");
    }

    /** Less than rule 4 leaves: what the class uses, and what is like it. */
    private static boolean isOfLibrary(ExecutableElement called) {
        String owner = called.getEnclosingElement().toString();
        String name = called.getSimpleName().toString();
        if (owner.equals("java.lang.System")) {
            return name.equals("arraycopy");
        }
        for (VariableElement parameter : called.getParameters()) {
            TypeKind kind = parameter.asType().getKind();
            if (kind != TypeKind.INT && kind != TypeKind.LONG) {
                return false;
            }
        }
        return owner.equals("java.lang.Math") && !name.endsWith("Exact") && !name.equals("random");
    }

    @Override
    public Void visitNewClass(NewClassTree tree, Void none) {
        boolean thrown = getCurrentPath().getParentPath().getLeaf() instanceof ThrowTree;
        Element made = trees.getElement(getCurrentPath());
        demand(4, tree, thrown || isOwn((ExecutableElement) made), "an object of " + made);
        demand(12, tree, thrown || !isInLoop(), "an object made in a loop");
        demand(2, tree, tree.getClassBody() == null, "an anonymous class");
        return super.visitNewClass(tree, none);
    }

    @Override
    public Void visitNewArray(NewArrayTree tree, Void none) {
        demand(12, tree, !isInLoop(), "an array made in a loop");
        return super.visitNewArray(tree, none);
    }

    private boolean isInLoop() {
        return upTo(ForLoopTree.class) != null || upTo(WhileLoopTree.class) != null
                || upTo(DoWhileLoopTree.class) != null;
    }

    private TreePath upTo(Class<? extends Tree> kind) {
        TreePath path = getCurrentPath();
        while (path != null && !kind.isInstance(path.getLeaf())) {
            path = path.getParentPath();
        }
        return path;
    }

    @Override
    public Void visitThrow(ThrowTree tree, Void none) {
        boolean written = false;
        if (tree.getExpression() instanceof NewClassTree made) {
            written = EXCEPTIONS.contains(made.getIdentifier().toString());
            for (ExpressionTree text : made.getArguments()) {
                written &= text instanceof LiteralTree;
            }
        }
        demand(6, tree, written, "not the throw of a new exception with a written text");
        TreePath method = upTo(MethodTree.class);
        boolean building = method == null
                || ((MethodTree) method.getLeaf()).getName().contentEquals("<init>");
        demand(6, tree, !building, "a throw in a constructor");
        return super.visitThrow(tree, none);
    }

    // ---- what is refused wherever it stands

    @Override
    public Void visitTry(TryTree tree, Void none) {
        demand(6, tree, false, "a try: no answer of this class needs one");
        return super.visitTry(tree, none);
    }

    @Override
    public Void visitSynchronized(SynchronizedTree tree, Void none) {
        demand(6, tree, false, "synchronized");
        return super.visitSynchronized(tree, none);
    }

    @Override
    public Void visitAssert(AssertTree tree, Void none) {
        demand(6, tree, false, "assert");
        return super.visitAssert(tree, none);
    }

    @Override
    public Void visitLambdaExpression(LambdaExpressionTree tree, Void none) {
        demand(2, tree, false, "a lambda");
        return super.visitLambdaExpression(tree, none);
    }

    @Override
    public Void visitMemberReference(MemberReferenceTree tree, Void none) {
        demand(2, tree, false, "a method reference");
        return super.visitMemberReference(tree, none);
    }

    @Override
    public Void visitTypeCast(TypeCastTree tree, Void none) {
        boolean number = trees.getTypeMirror(getCurrentPath()).getKind().isPrimitive();
        demand(6, tree, number, "a cast of an object");
        return super.visitTypeCast(tree, none);
    }

    // ---- loops, and what is reckoned

    @Override
    public Void visitForLoop(ForLoopTree tree, Void none) {
        demand(9, tree, hasBound(tree.getCondition()), "a loop without a bound");
        return super.visitForLoop(tree, none);
    }

    @Override
    public Void visitWhileLoop(WhileLoopTree tree, Void none) {
        demand(9, tree, hasBound(tree.getCondition()), "a loop without a bound");
        return super.visitWhileLoop(tree, none);
    }

    @Override
    public Void visitDoWhileLoop(DoWhileLoopTree tree, Void none) {
        demand(9, tree, hasBound(tree.getCondition()), "a loop without a bound");
        return super.visitDoWhileLoop(tree, none);
    }

    /** A counter, as a bare name, stands on the left of the condition's first comparison. */
    private static boolean hasBound(ExpressionTree condition) {
        if (condition instanceof ParenthesizedTree inner) {
            return hasBound(inner.getExpression());
        }
        if (!(condition instanceof BinaryTree two)) {
            return false;
        }
        return switch (two.getKind()) {
            case CONDITIONAL_AND -> hasBound(two.getLeftOperand());
            case LESS_THAN, LESS_THAN_EQUAL, GREATER_THAN, GREATER_THAN_EQUAL ->
                    two.getLeftOperand() instanceof IdentifierTree;
            default -> false;
        };
    }

    @Override
    public Void visitBinary(BinaryTree tree, Void none) {
        operands(tree, tree.getKind(), tree.getLeftOperand(), tree.getRightOperand());
        return super.visitBinary(tree, none);
    }

    @Override
    public Void visitCompoundAssignment(CompoundAssignmentTree tree, Void none) {
        operands(tree, tree.getKind(), tree.getVariable(), tree.getExpression());
        return super.visitCompoundAssignment(tree, none);
    }

    private void operands(Tree tree, Kind kind, Tree... both) {
        for (Tree operand : both) {
            var type = trees.getTypeMirror(new TreePath(getCurrentPath(), operand));
            boolean real = type.getKind() == TypeKind.DOUBLE || type.getKind() == TypeKind.FLOAT;
            demand(3, tree, !real || ON_DOUBLES.contains(kind), kind + " on doubles");
            boolean text = type.toString().equals("java.lang.String");
            demand(10, tree, !text, kind + " on texts");
        }
    }
}
