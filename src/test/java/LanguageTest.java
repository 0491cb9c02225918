import com.sun.source.tree.ArrayAccessTree;
import com.sun.source.tree.AssertTree;
import com.sun.source.tree.AssignmentTree;
import com.sun.source.tree.BinaryTree;
import com.sun.source.tree.BlockTree;
import com.sun.source.tree.ClassTree;
import com.sun.source.tree.CompilationUnitTree;
import com.sun.source.tree.CompoundAssignmentTree;
import com.sun.source.tree.ExpressionTree;
import com.sun.source.tree.ForLoopTree;
import com.sun.source.tree.IdentifierTree;
import com.sun.source.tree.ImportTree;
import com.sun.source.tree.LambdaExpressionTree;
import com.sun.source.tree.MemberReferenceTree;
import com.sun.source.tree.MethodInvocationTree;
import com.sun.source.tree.MethodTree;
import com.sun.source.tree.NewArrayTree;
import com.sun.source.tree.NewClassTree;
import com.sun.source.tree.PackageTree;
import com.sun.source.tree.SynchronizedTree;
import com.sun.source.tree.ThrowTree;
import com.sun.source.tree.Tree;
import com.sun.source.tree.TryTree;
import com.sun.source.tree.TypeCastTree;
import com.sun.source.tree.UnaryTree;
import com.sun.source.tree.VariableTree;
import com.sun.source.util.JavacTask;
import com.sun.source.util.SourcePositions;
import com.sun.source.util.TreePath;
import com.sun.source.util.TreePathScanner;
import com.sun.source.util.Trees;
import java.io.IOException;
import java.nio.file.Files;
import java.nio.file.Path;
import java.util.ArrayDeque;
import java.util.ArrayList;
import java.util.Arrays;
import java.util.Deque;
import java.util.HashSet;
import java.util.List;
import java.util.Map;
import java.util.Set;
import java.util.TreeMap;
import java.util.TreeSet;
import javax.lang.model.element.Element;
import javax.lang.model.element.ElementKind;
import javax.lang.model.element.ExecutableElement;
import javax.lang.model.element.Modifier;
import javax.lang.model.element.VariableElement;
import javax.lang.model.type.TypeKind;
import javax.lang.model.type.TypeMirror;
import javax.tools.JavaCompiler;
import javax.tools.StandardJavaFileManager;
import javax.tools.ToolProvider;

/** The file keeps to LANGUAGE.md: the compiler's own tree of it is gone through, rule by rule. */
public final class LanguageTest extends TreePathScanner<Void, Void> {
    private static final Path FILE = Path.of("src/main/java/FuelTurns.java");
    /** Of what rule 4 allows, what the class needs; a further one is to be looked up there first. */
    private static final Set<String> LIBRARY = new HashSet<>(Arrays.asList("java.lang.Math.min", "java.lang.Math.max",
        "java.lang.Math.abs", "java.lang.System.arraycopy", "java.lang.Object.<init>"));
    /** Divisors that are no constants, each tested in the lines ahead of it. */
    private static final Set<String> TESTED_DIVISORS = new HashSet<>(Arrays.asList("reach", "together", "plan[PRICE]"));
    private static final int MOST_LINES = 60;
    private static final int MOST_DEEP = 8;
    private static final int MOST_CLASSES = 12;
    private static final int MOST_FIELDS = 20;

    private final Trees trees;
    private final SourcePositions places;
    private final Map<String, Set<String>> calls = new TreeMap<>();
    private final Deque<String> methods = new ArrayDeque<>();
    private int classes = 0;

    private LanguageTest(JavacTask task) {
        trees = Trees.instance(task);
        places = trees.getSourcePositions();
    }

    public static void main(String[] args) throws IOException {
        JavaCompiler compiler = ToolProvider.getSystemJavaCompiler();
        try (StandardJavaFileManager files = compiler.getStandardFileManager(null, null, null)) {
            JavacTask task = (JavacTask) compiler.getTask(null, files, null, List.of("--release", "17"), null,
                files.getJavaFileObjects(FILE));
            LanguageTest test = new LanguageTest(task);
            List<CompilationUnitTree> units = new ArrayList<>();
            task.parse().forEach(units::add);
            task.analyze();
            for (CompilationUnitTree unit : units) {
                test.scan(unit, null);
            }
            test.deepness();
        }
        String text = Files.readString(FILE);
        Check.holds("rule 4: signs of 1 to 127", text.chars().allMatch(sign -> sign == '\n' || sign >= ' ' && sign < 127));
        Check.end();
    }

    private void never(String rule, Tree tree) {
        Check.holds("rule " + rule + ": line " + lineOf(places.getStartPosition(root(), tree)) + ": "
            + tree.toString().lines().findFirst().orElse(""), false);
    }

    private CompilationUnitTree root() {
        return getCurrentPath().getCompilationUnit();
    }

    private long lineOf(long place) {
        return root().getLineMap().getLineNumber(place);
    }

    private Element elementOf(Tree tree) {
        return trees.getElement(new TreePath(getCurrentPath(), tree));
    }

    private TypeMirror typeOf(Tree tree) {
        return trees.getTypeMirror(new TreePath(getCurrentPath(), tree));
    }

    private static String nameOf(Element method) {
        return method.getEnclosingElement() + "." + method.getSimpleName();
    }

    // ---- what may not stand there at all

    @Override
    public Void visitPackage(PackageTree tree, Void none) {
        never("0 (no package)", tree);
        return super.visitPackage(tree, none);
    }

    @Override
    public Void visitImport(ImportTree tree, Void none) {
        never("4 (the class needs no import)", tree);
        return super.visitImport(tree, none);
    }

    @Override
    public Void visitThrow(ThrowTree tree, Void none) {
        never("6", tree);
        return super.visitThrow(tree, none);
    }

    @Override
    public Void visitTry(TryTree tree, Void none) {
        never("6", tree);
        return super.visitTry(tree, none);
    }

    @Override
    public Void visitSynchronized(SynchronizedTree tree, Void none) {
        never("6", tree);
        return super.visitSynchronized(tree, none);
    }

    @Override
    public Void visitAssert(AssertTree tree, Void none) {
        never("6", tree);
        return super.visitAssert(tree, none);
    }

    @Override
    public Void visitLambdaExpression(LambdaExpressionTree tree, Void none) {
        never("2", tree);
        return super.visitLambdaExpression(tree, none);
    }

    @Override
    public Void visitMemberReference(MemberReferenceTree tree, Void none) {
        never("2", tree);
        return super.visitMemberReference(tree, none);
    }

    // ---- classes, fields and methods

    @Override
    public Void visitClass(ClassTree tree, Void none) {
        classes++;
        Check.holds("rule 11: at most twelve classes", classes <= MOST_CLASSES);
        Tree around = getCurrentPath().getParentPath().getLeaf();
        boolean outermost = around instanceof CompilationUnitTree;
        Set<Modifier> is = tree.getModifiers().getFlags();
        Check.holds("rule 1, 2: " + tree.getSimpleName() + " is outermost, or static and not public", outermost
            || around instanceof ClassTree && is.contains(Modifier.STATIC) && !is.contains(Modifier.PUBLIC)
            && !is.contains(Modifier.PROTECTED));
        Check.holds("rule 1: " + tree.getSimpleName() + " is of the file",
            !outermost || tree.getSimpleName().contentEquals("FuelTurns"));
        int fields = 0;
        for (Tree member : tree.getMembers()) {
            Check.holds("rule 5: no block beside the methods", !(member instanceof BlockTree));
            boolean isField = member instanceof VariableTree
                && !((VariableTree) member).getModifiers().getFlags().contains(Modifier.STATIC);
            fields += isField ? 1 : 0;
        }
        Check.holds("rule 11: " + tree.getSimpleName() + " has some twenty fields", fields <= MOST_FIELDS);
        return super.visitClass(tree, none);
    }

    @Override
    public Void visitVariable(VariableTree tree, Void none) {
        Element is = trees.getElement(getCurrentPath());
        String type = tree.getType().toString();
        Check.holds("rule 3: " + type + " " + tree.getName(), isAllowed(is.asType()));
        if (is.getModifiers().contains(Modifier.STATIC)) {
            boolean isConstant = ((VariableElement) is).getConstantValue() != null
                || type.equals("int[]") && isWrittenOut(tree.getInitializer());
            Check.holds("rule 5: " + tree.getName() + " is final and a constant",
                is.getModifiers().contains(Modifier.FINAL) && isConstant);
        }
        return super.visitVariable(tree, none);
    }

    private static boolean isWrittenOut(ExpressionTree row) {
        return row instanceof NewArrayTree && ((NewArrayTree) row).getInitializers() != null;
    }

    /** A row that is a constant may be asked alone: it stands nowhere but ahead of an index, and that isn't set. */
    private void readOnly(Tree set) {
        Tree row = set instanceof ArrayAccessTree ? ((ArrayAccessTree) set).getExpression() : set;
        Element is = elementOf(row);
        Check.holds("rule 5: never changed: " + set, is == null || !is.getModifiers().contains(Modifier.STATIC));
    }

    @Override
    public Void visitIdentifier(IdentifierTree tree, Void none) {
        Element is = trees.getElement(getCurrentPath());
        boolean isRow = is instanceof VariableElement && is.asType().getKind() == TypeKind.ARRAY;
        boolean isAhead = getCurrentPath().getParentPath().getLeaf() instanceof ArrayAccessTree;
        Check.holds("rule 5: handed out to no one: " + tree, !isRow || isAhead || !is.getModifiers().contains(Modifier.STATIC));
        return super.visitIdentifier(tree, none);
    }

    @Override
    public Void visitAssignment(AssignmentTree tree, Void none) {
        readOnly(tree.getVariable());
        return super.visitAssignment(tree, none);
    }

    @Override
    public Void visitUnary(UnaryTree tree, Void none) {
        if (tree.getKind().toString().endsWith("CREMENT")) {
            readOnly(tree.getExpression());
        }
        return super.visitUnary(tree, none);
    }

    /** Numbers, booleans, one dimension of these or of own classes, own classes: no more is needed. */
    private static boolean isAllowed(TypeMirror type) {
        String name = type.toString();
        String of = name.endsWith("[]") ? name.substring(0, name.length() - 2) : name;
        return Arrays.asList("int", "long", "byte", "boolean").contains(of) || of.startsWith("FuelTurns.");
    }

    @Override
    public Void visitMethod(MethodTree tree, Void none) {
        Element is = trees.getElement(getCurrentPath());
        String name = nameOf(is);
        long first = lineOf(places.getStartPosition(root(), tree));
        long last = lineOf(places.getEndPosition(root(), tree));
        Check.holds("rule 11: " + name + " has at most sixty lines", last - first < MOST_LINES);
        Check.holds("rule 11: " + name + " takes at most seven", tree.getParameters().size() <= 7);
        Check.holds("rule 3: " + name + " has no list of any length", !((ExecutableElement) is).isVarArgs());
        Check.holds("the call graph needs names of their own: " + name, calls.put(name, new TreeSet<>()) == null
            || is.getKind() == ElementKind.CONSTRUCTOR);
        methods.push(name);
        super.visitMethod(tree, none);
        methods.pop();
        return null;
    }

    // ---- what is called and made

    @Override
    public Void visitMethodInvocation(MethodInvocationTree tree, Void none) {
        Element called = elementOf(tree.getMethodSelect());
        String name = nameOf(called);
        boolean isOwn = name.startsWith("FuelTurns");
        Check.holds("rule 4: " + name, isOwn || LIBRARY.contains(name));
        if (!methods.isEmpty()) {
            calls.get(methods.peek()).add(name);
        }
        return super.visitMethodInvocation(tree, none);
    }

    /** Rule 12 lets a method make objects; here none does, but constructors and what fields begin with. */
    private boolean isAtFirst() {
        return methods.isEmpty() || methods.peek().endsWith(".<init>");
    }

    @Override
    public Void visitNewClass(NewClassTree tree, Void none) {
        Check.holds("rule 2: no class without a name: " + tree, tree.getClassBody() == null);
        Check.holds("rule 12: made once: " + tree, isAtFirst());
        return super.visitNewClass(tree, none);
    }

    @Override
    public Void visitNewArray(NewArrayTree tree, Void none) {
        Check.holds("rule 12: made once: " + tree, isAtFirst());
        Check.holds("rule 3: one dimension: " + tree, tree.getDimensions().size() < 2);
        for (ExpressionTree length : tree.getDimensions()) {
            Check.holds("rule 7: a constant length: " + tree, isConstant(length));
        }
        return super.visitNewArray(tree, none);
    }

    // ---- what the machine could throw at

    @Override
    public Void visitTypeCast(TypeCastTree tree, Void none) {
        Check.holds("rule 6: a cast among numbers: " + tree, typeOf(tree.getType()).getKind().isPrimitive());
        return super.visitTypeCast(tree, none);
    }

    @Override
    public Void visitBinary(BinaryTree tree, Void none) {
        if (tree.getKind() == Tree.Kind.DIVIDE || tree.getKind() == Tree.Kind.REMAINDER) {
            divides(tree, tree.getRightOperand());
        }
        Check.holds("rule 10: no texts by +: " + tree, trees.getTypeMirror(getCurrentPath()).getKind() != TypeKind.DECLARED);
        return super.visitBinary(tree, none);
    }

    @Override
    public Void visitCompoundAssignment(CompoundAssignmentTree tree, Void none) {
        if (tree.getKind() == Tree.Kind.DIVIDE_ASSIGNMENT || tree.getKind() == Tree.Kind.REMAINDER_ASSIGNMENT) {
            divides(tree, tree.getExpression());
        }
        readOnly(tree.getVariable());
        return super.visitCompoundAssignment(tree, none);
    }

    private void divides(Tree tree, ExpressionTree by) {
        Check.holds("rule 7: a divisor that can't be 0: " + tree, isConstant(by) || TESTED_DIVISORS.contains(by.toString()));
    }

    /** A number that is written out (none is 0 where this is asked), or the name of a constant. */
    private boolean isConstant(ExpressionTree tree) {
        if (tree.getKind() == Tree.Kind.INT_LITERAL) {
            return !tree.toString().equals("0");
        }
        if (tree instanceof BinaryTree) {
            return isConstant(((BinaryTree) tree).getLeftOperand()) && isConstant(((BinaryTree) tree).getRightOperand());
        }
        Element is = elementOf(tree);
        return is instanceof VariableElement && ((VariableElement) is).getConstantValue() != null
            && !((VariableElement) is).getConstantValue().equals(0);
    }

    @Override
    public Void visitForLoop(ForLoopTree tree, Void none) {
        Check.holds("rule 9: a counter against a bound: " + tree.getCondition(),
            tree.getCondition() != null && tree.getUpdate().size() == 1);
        return super.visitForLoop(tree, none);
    }

    // ---- how deep calls go

    private void deepness() {
        int deepest = 0;
        for (String name : calls.keySet()) {
            deepest = Math.max(deepest, deep(name, new ArrayDeque<>()));
        }
        System.out.println("calls go " + deepest + " deep");
        Check.holds("rule 11: calls go at most eight deep, but went " + deepest, deepest <= MOST_DEEP && deepest > 1);
    }

    private int deep(String name, Deque<String> open) {
        if (open.contains(name)) {
            Check.holds("rule 8: the class needs no recursion, but has " + open, false);
            return 0;
        }
        open.push(name);
        int below = 0;
        for (String next : calls.getOrDefault(name, Set.of())) {
            below = Math.max(below, deep(next, open));
        }
        open.pop();
        return 1 + below;
    }
}
