import com.sun.source.tree.ArrayAccessTree;
import com.sun.source.tree.ArrayTypeTree;
import com.sun.source.tree.AssignmentTree;
import com.sun.source.tree.BinaryTree;
import com.sun.source.tree.BlockTree;
import com.sun.source.tree.ClassTree;
import com.sun.source.tree.CompilationUnitTree;
import com.sun.source.tree.CompoundAssignmentTree;
import com.sun.source.tree.DoWhileLoopTree;
import com.sun.source.tree.ExpressionStatementTree;
import com.sun.source.tree.ExpressionTree;
import com.sun.source.tree.ForLoopTree;
import com.sun.source.tree.IdentifierTree;
import com.sun.source.tree.InstanceOfTree;
import com.sun.source.tree.LambdaExpressionTree;
import com.sun.source.tree.LiteralTree;
import com.sun.source.tree.MemberReferenceTree;
import com.sun.source.tree.MethodInvocationTree;
import com.sun.source.tree.MethodTree;
import com.sun.source.tree.NewArrayTree;
import com.sun.source.tree.NewClassTree;
import com.sun.source.tree.SynchronizedTree;
import com.sun.source.tree.ThrowTree;
import com.sun.source.tree.Tree;
import com.sun.source.tree.TryTree;
import com.sun.source.tree.TypeCastTree;
import com.sun.source.tree.UnaryTree;
import com.sun.source.tree.VariableTree;
import com.sun.source.tree.WhileLoopTree;
import com.sun.source.util.JavacTask;
import com.sun.source.util.TreePath;
import com.sun.source.util.TreePathScanner;
import com.sun.source.util.Trees;
import java.io.IOException;
import java.nio.file.Files;
import java.nio.file.Path;
import java.util.HashMap;
import java.util.List;
import java.util.Map;
import java.util.Set;
import java.util.TreeMap;
import java.util.TreeSet;
import javax.lang.model.element.Element;
import javax.lang.model.element.ElementKind;
import javax.lang.model.element.ExecutableElement;
import javax.lang.model.element.Modifier;
import javax.lang.model.element.TypeElement;
import javax.lang.model.type.TypeKind;
import javax.lang.model.type.TypeMirror;
import javax.lang.model.util.Elements;
import javax.tools.JavaCompiler;
import javax.tools.StandardJavaFileManager;
import javax.tools.ToolProvider;

/**
 * The rules 2 to 13 of LANGUAGE.md, as far as they can be read in the program's source; what the
 * program does not need of what they allow is refused, too. FaceTest looks at rule 1.
 */
public final class LanguageTest extends TreePathScanner<Void, Void> {

    private static final Path PROGRAM = Path.of("src/main/java/Veilbourse.java");
    private static final int MOST_PARAMETERS = 7;
    private static final int MOST_LINES = 60;
    private static final int MOST_FIELDS = 20;
    private static final int MOST_CLASSES = 12;
    private static final int MOST_DEPTH = 8;
    private static final Set<String> NUMBERS =
            Set.of("int", "long", "short", "byte", "char", "boolean", "double", "float");
    private static final Set<String> CONSTANTS = Set.of("int", "long", "boolean", "char", "String",
            "int[]", "long[]", "char[]", "byte[]");
    private static final Set<String> FUNCTIONS =
            Set.of("max", "min", "abs", "floorDiv", "floorMod", "bitCount");
    private static final Set<String> THROWN = Set.of("IllegalStateException",
            "IllegalArgumentException", "IndexOutOfBoundsException", "ArithmeticException");
    /** The face asks for more parameters there. */
    private static final Set<String> WIDE = Set.of("fill", "parts");
    /** What is divided by; each is a constant, or is looked at ahead of the division. */
    private static final Set<String> DIVISORS =
            Set.of("p", "(p - 1)", "q", "d", "all", "SEALS");

    private final CompilationUnitTree unit;
    private final Trees trees;
    private final Elements elements;
    private final Set<String> classes = new TreeSet<>();
    private final Set<String> divisors = new TreeSet<>();
    private final Map<String, Set<String>> calls = new TreeMap<>();
    private final Map<String, Integer> depths = new HashMap<>();

    private LanguageTest(CompilationUnitTree unit, JavacTask task) {
        this.unit = unit;
        trees = Trees.instance(task);
        elements = task.getElements();
    }

    public static void main(String[] args) throws IOException {
        JavaCompiler compiler = ToolProvider.getSystemJavaCompiler();
        try (StandardJavaFileManager files = compiler.getStandardFileManager(null, null, null)) {
            JavacTask task = (JavacTask) compiler.getTask(null, files, null, List.of("-proc:none"),
                    null, files.getJavaFileObjects(PROGRAM));
            CompilationUnitTree unit = task.parse().iterator().next();
            task.analyze();
            new LanguageTest(unit, task).all();
        }
        Check.that("all signs are plain", Files.readString(PROGRAM).chars().allMatch(c -> c < 127));
        Check.end("LanguageTest");
    }

    private void all() {
        Check.that("there is no package line", unit.getPackageName() == null);
        Check.that("nothing is imported", unit.getImports().isEmpty());
        Check.equal("the public classes", unit.getTypeDecls().size(), 1);
        scan(unit, null);
        Check.that("there are few classes", classes.size() <= MOST_CLASSES);
        Check.equal("the divisors", divisors, new TreeSet<>(DIVISORS));
        int deepest = 0;
        for (String method : calls.keySet()) {
            deepest = Math.max(deepest, depthOf(method, 0));
        }
        Check.that("calls go eight deep at most, not " + deepest, deepest <= MOST_DEPTH);
    }

    /** How many calls stand open at once below a method and with it; a recursion is told. */
    private int depthOf(String method, int above) {
        if (depths.containsKey(method)) {
            return depths.get(method);
        }
        Check.that(method + " calls itself", above < 100);
        int deepest = 0;
        for (String called : above < 100 ? calls.getOrDefault(method, Set.of()) : Set.<String>of()) {
            deepest = Math.max(deepest, depthOf(called, above + 1));
        }
        depths.put(method, deepest + 1);
        return deepest + 1;
    }

    // What is told of a place in the source.

    private void holds(String rule, Tree tree, boolean holds) {
        long start = trees.getSourcePositions().getStartPosition(unit, tree);
        long line = unit.getLineMap().getLineNumber(start);
        Check.that("rule " + rule + " in line " + line, holds);
    }

    private void refuse(String rule, Tree tree) {
        holds(rule, tree, false);
    }

    private Element elementOf(Tree tree) {
        return trees.getElement(new TreePath(getCurrentPath(), tree));
    }

    private TypeMirror typeOf(Tree tree) {
        return trees.getTypeMirror(new TreePath(getCurrentPath(), tree));
    }

    private boolean isOwn(Element element) {
        return elements.getPackageOf(element).isUnnamed();
    }

    private MethodTree method() {
        for (TreePath path = getCurrentPath(); path != null; path = path.getParentPath()) {
            if (path.getLeaf() instanceof MethodTree) {
                return (MethodTree) path.getLeaf();
            }
        }
        return null;
    }

    private boolean isInConstructor() {
        return method() != null && method().getName().contentEquals("<init>");
    }

    private boolean isInThrow() {
        for (TreePath path = getCurrentPath(); path != null; path = path.getParentPath()) {
            if (path.getLeaf() instanceof ThrowTree) {
                return true;
            }
        }
        return false;
    }

    private static String nameOf(Element method) {
        return method.getEnclosingElement().getSimpleName() + "." + method;
    }

    // 2, 3, 5 and 11: classes, fields and methods.

    @Override
    public Void visitClass(ClassTree tree, Void none) {
        boolean isInside = getCurrentPath().getParentPath().getLeaf() instanceof ClassTree;
        boolean isTop = getCurrentPath().getParentPath().getLeaf() instanceof CompilationUnitTree;
        holds("2: no local or anonymous class", tree, isInside || isTop);
        holds("2: static inside", tree,
                isTop || tree.getModifiers().getFlags().contains(Modifier.STATIC));
        holds("2: nothing above or beside a class", tree,
                tree.getExtendsClause() == null && tree.getImplementsClause().isEmpty());
        holds("3: not generic", tree, tree.getTypeParameters().isEmpty());
        classes.add(tree.getSimpleName().toString());
        int fields = 0;
        for (Tree member : tree.getMembers()) {
            boolean isField = member instanceof VariableTree
                    && !((VariableTree) member).getModifiers().getFlags().contains(Modifier.STATIC);
            fields += isField ? 1 : 0;
        }
        holds("11: few fields", tree, fields <= MOST_FIELDS);
        return super.visitClass(tree, none);
    }

    @Override
    public Void visitVariable(VariableTree tree, Void none) {
        checkType(tree.getType());
        boolean isField = getCurrentPath().getParentPath().getLeaf() instanceof ClassTree;
        Set<Modifier> flags = tree.getModifiers().getFlags();
        if (isField && flags.contains(Modifier.STATIC)) {
            holds("5: static is final", tree, flags.contains(Modifier.FINAL));
            holds("5: a constant", tree, CONSTANTS.contains(tree.getType().toString())
                    && tree.getInitializer() != null);
        } else if (isField) {
            holds("12: what an object has is made by its constructor", tree,
                    tree.getInitializer() == null);
        }
        return super.visitVariable(tree, none);
    }

    private void checkType(Tree type) {
        int dimensions = 0;
        Tree base = type;
        while (base instanceof ArrayTypeTree) {
            base = ((ArrayTypeTree) base).getType();
            dimensions++;
        }
        boolean isNumber = NUMBERS.contains(base.toString());
        boolean isText = base.toString().equals("String") && dimensions == 0;
        Element named = isNumber ? null : elementOf(base);
        boolean isKnown = isNumber || isText || base.toString().equals("void")
                || named != null && isOwn(named);
        holds("3: the type " + type, type, isKnown && dimensions <= (isNumber ? 2 : 1));
    }

    @Override
    public Void visitMethod(MethodTree tree, Void none) {
        if (tree.getReturnType() != null) {
            checkType(tree.getReturnType());
        }
        String name = tree.getName().toString();
        holds("11: few parameters", tree,
                tree.getParameters().size() <= MOST_PARAMETERS || WIDE.contains(name));
        long start = trees.getSourcePositions().getStartPosition(unit, tree);
        long end = trees.getSourcePositions().getEndPosition(unit, tree);
        long lines = unit.getLineMap().getLineNumber(end) - unit.getLineMap().getLineNumber(start);
        holds("11: a short method", tree, lines <= MOST_LINES);
        holds("10: not synchronized", tree,
                !tree.getModifiers().getFlags().contains(Modifier.SYNCHRONIZED));
        calls.put(nameOf(trees.getElement(getCurrentPath())), new TreeSet<>());
        return super.visitMethod(tree, none);
    }

    @Override
    public Void visitBlock(BlockTree tree, Void none) {
        Tree parent = getCurrentPath().getParentPath().getLeaf();
        holds("5: no block of a class", tree, !(parent instanceof ClassTree));
        return super.visitBlock(tree, none);
    }

    // 4, 8 and 12: what is called and what is made.

    @Override
    public Void visitMethodInvocation(MethodInvocationTree tree, Void none) {
        Element called = elementOf(tree.getMethodSelect());
        boolean isOwn = called != null && isOwn(called);
        holds("4: the library in " + tree, tree, isOwn || isKnownFunction(called)
                || isInConstructor() && tree.toString().equals("super()"));
        if (isOwn && method() != null) {
            TreePath path = trees.getPath(unit, method());
            calls.get(nameOf(trees.getElement(path))).add(nameOf(called));
        }
        return super.visitMethodInvocation(tree, none);
    }

    private static boolean isKnownFunction(Element called) {
        if (called == null || called.getKind() != ElementKind.METHOD) {
            return false;
        }
        String owner = ((TypeElement) called.getEnclosingElement()).getQualifiedName().toString();
        TypeKind answer = ((ExecutableElement) called).getReturnType().getKind();
        return (owner.equals("java.lang.Math") || owner.equals("java.lang.Integer"))
                && FUNCTIONS.contains(called.getSimpleName().toString())
                && (answer == TypeKind.INT || answer == TypeKind.LONG);
    }

    @Override
    public Void visitNewClass(NewClassTree tree, Void none) {
        boolean isThrown = isInThrow() && THROWN.contains(tree.getIdentifier().toString());
        Element made = elementOf(tree.getIdentifier());
        holds("12: made in a constructor, or thrown", tree,
                isThrown || isInConstructor() && isOwn(made));
        if (!isThrown && method() != null) {
            TreePath path = trees.getPath(unit, method());
            calls.get(nameOf(trees.getElement(path)))
                    .add(nameOf(trees.getElement(getCurrentPath())));
        }
        return super.visitNewClass(tree, none);
    }

    @Override
    public Void visitNewArray(NewArrayTree tree, Void none) {
        boolean isWrittenOut = tree.getInitializers() != null && method() == null;
        holds("12: made in a constructor, or a constant", tree,
                isWrittenOut || isInConstructor());
        return super.visitNewArray(tree, none);
    }

    // 6: exceptions.

    @Override
    public Void visitThrow(ThrowTree tree, Void none) {
        holds("6: no throw in a constructor", tree, !isInConstructor());
        holds("6: a new one is thrown", tree, tree.getExpression() instanceof NewClassTree);
        if (tree.getExpression() instanceof NewClassTree) {
            NewClassTree made = (NewClassTree) tree.getExpression();
            holds("6: which", tree, THROWN.contains(made.getIdentifier().toString()));
            boolean isPlain = made.getClassBody() == null;
            for (ExpressionTree argument : made.getArguments()) {
                isPlain &= argument instanceof LiteralTree;
            }
            holds("6: a written text", tree, isPlain && made.getArguments().size() <= 1);
        }
        return super.visitThrow(tree, none);
    }

    @Override
    public Void visitTry(TryTree tree, Void none) {
        refuse("6: no try is needed", tree);
        return super.visitTry(tree, none);
    }

    // 7 and 10: what is reckoned.

    @Override
    public Void visitBinary(BinaryTree tree, Void none) {
        boolean isDivision = tree.getKind() == Tree.Kind.DIVIDE
                || tree.getKind() == Tree.Kind.REMAINDER;
        if (isDivision) {
            divisors.add(tree.getRightOperand().toString());
        }
        if (tree.getKind() == Tree.Kind.REMAINDER) {
            holds("3: no rest of doubles", tree, typeOf(tree).getKind() != TypeKind.DOUBLE);
        }
        holds("10: texts are not joined by +", tree,
                tree.getKind() != Tree.Kind.PLUS || typeOf(tree).getKind().isPrimitive());
        return super.visitBinary(tree, none);
    }

    @Override
    public Void visitTypeCast(TypeCastTree tree, Void none) {
        holds("7: no cast but of numbers", tree, NUMBERS.contains(tree.getType().toString()));
        return super.visitTypeCast(tree, none);
    }

    @Override
    public Void visitLiteral(LiteralTree tree, Void none) {
        holds("7: no null", tree, tree.getKind() != Tree.Kind.NULL_LITERAL);
        return super.visitLiteral(tree, none);
    }

    @Override
    public Void visitCompoundAssignment(CompoundAssignmentTree tree, Void none) {
        boolean isDivision = tree.getKind() == Tree.Kind.DIVIDE_ASSIGNMENT
                || tree.getKind() == Tree.Kind.REMAINDER_ASSIGNMENT;
        holds("7: divisions stand by themselves", tree, !isDivision);
        notConstant(tree.getVariable());
        return super.visitCompoundAssignment(tree, none);
    }

    @Override
    public Void visitAssignment(AssignmentTree tree, Void none) {
        notConstant(tree.getVariable());
        return super.visitAssignment(tree, none);
    }

    @Override
    public Void visitUnary(UnaryTree tree, Void none) {
        notConstant(tree.getExpression());
        return super.visitUnary(tree, none);
    }

    /** An array that is a constant is never changed. */
    private void notConstant(ExpressionTree changed) {
        if (changed instanceof ArrayAccessTree) {
            Element array = elementOf(((ArrayAccessTree) changed).getExpression());
            holds("5: a constant stays", changed,
                    array == null || !array.getModifiers().contains(Modifier.STATIC));
        }
    }

    // 9: loops, each with a counter of its own against a bound.

    @Override
    public Void visitForLoop(ForLoopTree tree, Void none) {
        boolean isCounted = tree.getInitializer().size() == 1 && tree.getUpdate().size() == 1
                && tree.getInitializer().get(0) instanceof VariableTree;
        holds("9: one counter", tree, isCounted);
        if (isCounted) {
            String counter = ((VariableTree) tree.getInitializer().get(0)).getName().toString();
            holds("9: a bound", tree, isBounded(tree.getCondition(), counter));
            holds("9: the counter goes on", tree, goesOn(tree.getUpdate().get(0), counter));
            holds("9: the counter is left alone", tree, !changes(tree.getStatement(), counter));
        }
        return super.visitForLoop(tree, none);
    }

    private static boolean isBounded(ExpressionTree condition, String counter) {
        if (!(condition instanceof BinaryTree)) {
            return false;
        }
        BinaryTree both = (BinaryTree) condition;
        if (both.getKind() == Tree.Kind.CONDITIONAL_AND) {
            return isBounded(both.getLeftOperand(), counter)
                    || isBounded(both.getRightOperand(), counter);
        }
        Set<Tree.Kind> kinds = Set.of(Tree.Kind.LESS_THAN, Tree.Kind.LESS_THAN_EQUAL,
                Tree.Kind.GREATER_THAN_EQUAL, Tree.Kind.GREATER_THAN);
        Set<String> parts = Set.of(both.getLeftOperand().toString().split(" \\+ "));
        return kinds.contains(both.getKind()) && parts.contains(counter);
    }

    private static boolean goesOn(ExpressionStatementTree update, String counter) {
        String told = update.getExpression().toString();
        return told.equals(counter + "++") || told.equals(counter + "--");
    }

    private boolean changes(Tree body, String counter) {
        boolean[] found = {false};
        new TreePathScanner<Void, Void>() {
            private void look(ExpressionTree changed) {
                found[0] |= changed instanceof IdentifierTree
                        && changed.toString().equals(counter);
            }

            @Override
            public Void visitAssignment(AssignmentTree tree, Void none) {
                look(tree.getVariable());
                return super.visitAssignment(tree, none);
            }

            @Override
            public Void visitCompoundAssignment(CompoundAssignmentTree tree, Void none) {
                look(tree.getVariable());
                return super.visitCompoundAssignment(tree, none);
            }

            @Override
            public Void visitUnary(UnaryTree tree, Void none) {
                boolean isStep = tree.toString().contains("++") || tree.toString().contains("--");
                if (isStep) {
                    look(tree.getExpression());
                }
                return super.visitUnary(tree, none);
            }
        }.scan(new TreePath(getCurrentPath(), body), null);
        return found[0];
    }

    @Override
    public Void visitWhileLoop(WhileLoopTree tree, Void none) {
        refuse("9: no while is needed", tree);
        return super.visitWhileLoop(tree, none);
    }

    @Override
    public Void visitDoWhileLoop(DoWhileLoopTree tree, Void none) {
        refuse("9: no do is needed", tree);
        return super.visitDoWhileLoop(tree, none);
    }

    // 2 and 6: what is not there at all.

    @Override
    public Void visitLambdaExpression(LambdaExpressionTree tree, Void none) {
        refuse("2: no lambda", tree);
        return super.visitLambdaExpression(tree, none);
    }

    @Override
    public Void visitMemberReference(MemberReferenceTree tree, Void none) {
        refuse("2: no method reference", tree);
        return super.visitMemberReference(tree, none);
    }

    @Override
    public Void visitInstanceOf(InstanceOfTree tree, Void none) {
        refuse("6: no instanceof is needed", tree);
        return super.visitInstanceOf(tree, none);
    }

    @Override
    public Void visitSynchronized(SynchronizedTree tree, Void none) {
        refuse("6: no synchronized", tree);
        return super.visitSynchronized(tree, none);
    }
}
