import com.sun.source.tree.*;
import com.sun.source.util.JavacTask;
import com.sun.source.util.SourcePositions;
import com.sun.source.util.TreePath;
import com.sun.source.util.TreePathScanner;
import com.sun.source.util.Trees;
import java.io.IOException;
import java.util.HashMap;
import java.util.HashSet;
import java.util.List;
import java.util.Map;
import java.util.Set;
import java.util.TreeSet;
import javax.lang.model.element.Element;
import javax.lang.model.element.ElementKind;
import javax.lang.model.element.ExecutableElement;
import javax.lang.model.element.Modifier;
import javax.lang.model.type.TypeMirror;
import javax.tools.JavaCompiler;
import javax.tools.StandardJavaFileManager;
import javax.tools.ToolProvider;

/**
 * The rules of LANGUAGE.md, as far as the program's tree shows them, by their numbers. Where the program keeps to less
 * than a rule leaves (no recursion, no lists, no casts of objects, no object made by a call), it is held to that.
 * What rules 1, 7, 12 and 13 say besides is in FaceTest, AnyCallsTest and RoomTest.
 */
final class LanguageTest extends TreePathScanner<Void, Void> {
    private static final Set<String> LIBRARY = Set.of(
        "java.lang.Math.max(int,int)", "java.lang.Math.min(int,int)", "java.lang.Integer.bitCount(int)", "java.lang.Object.Object()");
    private static final Set<String> SIMPLE_TYPES = Set.of("int", "long", "char", "boolean");
    private static final Set<Tree.Kind> COMPARISONS =
        Set.of(Tree.Kind.LESS_THAN, Tree.Kind.LESS_THAN_EQUAL, Tree.Kind.GREATER_THAN, Tree.Kind.GREATER_THAN_EQUAL);
    private static final int MOST_CLASSES = 12;
    private static final int MOST_FIELDS = 20;
    private static final int MOST_PARAMETERS = 7;
    private static final int MOST_LINES = 60;
    private static final int DEEPEST = 8;

    private final Checks checks = new Checks();
    private final Trees trees;
    private final CompilationUnitTree file;
    private final SourcePositions positions;
    private final Map<Element, Set<Element>> calls = new HashMap<>();
    private int classes;

    private LanguageTest(JavacTask task) throws IOException {
        file = task.parse().iterator().next();
        task.analyze();
        trees = Trees.instance(task);
        positions = trees.getSourcePositions();
    }

    public static void main(String[] args) throws IOException {
        JavaCompiler compiler = ToolProvider.getSystemJavaCompiler();
        try (StandardJavaFileManager files = compiler.getStandardFileManager(null, null, null)) {
            JavacTask task =
                (JavacTask) compiler.getTask(null, files, null, List.of("--release", "17"), null, files.getJavaFileObjects(args[0]));
            new LanguageTest(task).go();
        }
    }

    private void go() {
        checks.due("1: one class in the file", file.getTypeDecls().size(), 1);
        checks.due("head: no package line", file.getPackage() == null);
        checks.due("4: no imports", file.getImports().isEmpty());
        scan(file, null);
        checks.due("11: at most " + MOST_CLASSES + " classes, not " + classes, classes <= MOST_CLASSES);
        for (Element method : calls.keySet()) {
            int deep = depth(method, new HashSet<>());
            checks.due("8, 11: calls of " + method + " go " + deep + " deep", deep <= DEEPEST);
        }
        checks.finish("LanguageTest");
    }

    private String here() {
        return "line " + file.getLineMap().getLineNumber(positions.getStartPosition(file, getCurrentPath().getLeaf()));
    }

    private void due(String rule, boolean holds) {
        checks.due(here() + ", rule " + rule, holds);
    }

    private Element element() {
        return trees.getElement(getCurrentPath());
    }

    private TypeMirror typeOf(Tree tree) {
        return trees.getTypeMirror(new TreePath(getCurrentPath(), tree));
    }

    private static boolean isOwn(String type) {
        return type.equals("PricedPairs") || type.startsWith("PricedPairs.");
    }

    private ExecutableElement method() {
        for (TreePath path = getCurrentPath(); path != null; path = path.getParentPath()) {
            if (path.getLeaf() instanceof MethodTree) {
                return (ExecutableElement) trees.getElement(path);
            }
        }
        return null;
    }

    private boolean isInConstructor() {
        return method() == null || method().getKind() == ElementKind.CONSTRUCTOR;
    }

    // ---- rules 2 and 6, and what the program does without

    private Void never(String what) {
        due(what, false);
        return null;
    }

    @Override
    public Void visitLambdaExpression(LambdaExpressionTree tree, Void none) {
        return never("2: no lambda");
    }

    @Override
    public Void visitMemberReference(MemberReferenceTree tree, Void none) {
        return never("2: no method reference");
    }

    @Override
    public Void visitThrow(ThrowTree tree, Void none) {
        return never("6: no throw");
    }

    @Override
    public Void visitTry(TryTree tree, Void none) {
        return never("6: no try, no catch");
    }

    @Override
    public Void visitSynchronized(SynchronizedTree tree, Void none) {
        return never("6: no synchronized");
    }

    @Override
    public Void visitAssert(AssertTree tree, Void none) {
        return never("6: no assert");
    }

    @Override
    public Void visitAnnotation(AnnotationTree tree, Void none) {
        return never("4: no annotations");
    }

    @Override
    public Void visitTypeCast(TypeCastTree tree, Void none) {
        due("6: casts of numbers alone", typeOf(tree.getExpression()).getKind().isPrimitive());
        return super.visitTypeCast(tree, none);
    }

    @Override
    public Void visitCase(CaseTree tree, Void none) {
        for (ExpressionTree label : tree.getExpressions()) {
            due("6: switch on numbers", label.getKind() == Tree.Kind.INT_LITERAL);
        }
        return super.visitCase(tree, none);
    }

    // ---- classes, fields, types: rules 2, 3, 5 and 11

    @Override
    public Void visitClass(ClassTree tree, Void none) {
        classes++;
        Set<Modifier> flags = tree.getModifiers().getFlags();
        boolean isOutermost = getCurrentPath().getParentPath().getLeaf() == file;
        boolean isMember = getCurrentPath().getParentPath().getLeaf() instanceof ClassTree;
        due("1: the class is public and final", !isOutermost || flags.containsAll(Set.of(Modifier.PUBLIC, Modifier.FINAL)));
        due("2: classes inside are members and static", isOutermost || isMember && flags.contains(Modifier.STATIC));
        due("1: classes inside are not public or protected",
            isOutermost || !flags.contains(Modifier.PUBLIC) && !flags.contains(Modifier.PROTECTED));
        int fields = 0;
        for (Tree member : tree.getMembers()) {
            due("5: no initialiser block", !(member instanceof BlockTree));
            if (member instanceof VariableTree && !((VariableTree) member).getModifiers().getFlags().contains(Modifier.STATIC)) {
                fields++;
            }
        }
        due("11: at most " + MOST_FIELDS + " fields", fields <= MOST_FIELDS);
        return super.visitClass(tree, none);
    }

    @Override
    public Void visitVariable(VariableTree tree, Void none) {
        String type = element().asType().toString();
        String base = type.replace("[]", "");
        int dimensions = (type.length() - base.length()) / 2;
        due("3: the type " + type, SIMPLE_TYPES.contains(base) ? dimensions <= 2 : isOwn(base) && dimensions <= 1);
        if (tree.getModifiers().getFlags().contains(Modifier.STATIC)) {
            due("5: static fields are final", tree.getModifiers().getFlags().contains(Modifier.FINAL));
            due("5: static fields are constants", SIMPLE_TYPES.contains(type) && tree.getInitializer() != null);
        }
        return super.visitVariable(tree, none);
    }

    // ---- methods, calls, objects: rules 4, 6, 8, 11 and 12

    @Override
    public Void visitMethod(MethodTree tree, Void none) {
        calls.putIfAbsent(element(), new HashSet<>());
        due("11: at most " + MOST_PARAMETERS + " parameters", tree.getParameters().size() <= MOST_PARAMETERS);
        LineMap lines = file.getLineMap();
        long first = lines.getLineNumber(positions.getStartPosition(file, tree));
        long last = lines.getLineNumber(positions.getEndPosition(file, tree));
        due("11: " + tree.getName() + " has some " + MOST_LINES + " lines at most", first < 0 || last - first < MOST_LINES);
        return super.visitMethod(tree, none);
    }

    @Override
    public Void visitMethodInvocation(MethodInvocationTree tree, Void none) {
        Element called = element();
        String owner = called.getEnclosingElement().toString();
        boolean isImplicit = called.toString().equals("Object()");
        due("4: " + owner + "." + called, isOwn(owner) || LIBRARY.contains(owner + "." + called));
        calls.computeIfAbsent(method(), any -> new HashSet<>()).add(called);
        due("12: a constructor calls none of its methods", isImplicit || !isInConstructor());
        return super.visitMethodInvocation(tree, none);
    }

    @Override
    public Void visitNewClass(NewClassTree tree, Void none) {
        due("2: no class without a name", tree.getClassBody() == null);
        due("4: objects of the program's own", isOwn(typeOf(tree).toString()));
        due("12: objects are made by constructors alone", isInConstructor());
        calls.computeIfAbsent(method(), any -> new HashSet<>()).add(element());
        return super.visitNewClass(tree, none);
    }

    @Override
    public Void visitNewArray(NewArrayTree tree, Void none) {
        due("12: arrays are made by constructors alone", isInConstructor());
        return super.visitNewArray(tree, none);
    }

    @Override
    public Void visitIdentifier(IdentifierTree tree, Void none) {
        if (tree.getName().contentEquals("this")) {
            boolean isQualifier = getCurrentPath().getParentPath().getLeaf() instanceof MemberSelectTree;
            due("12: this is not handed out", isQualifier);
        }
        return super.visitIdentifier(tree, none);
    }

    /** How many calls stand open at most, this one too; far above the rule's bound if a method comes back to itself. */
    private int depth(Element method, Set<Element> open) {
        if (!open.add(method)) {
            return 1000;
        }
        int deepest = 0;
        for (Element called : calls.getOrDefault(method, Set.of())) {
            deepest = Math.max(deepest, depth(called, open));
        }
        open.remove(method);
        return deepest + 1;
    }

    // ---- operators and loops: rules 6, 9 and 10

    @Override
    public Void visitBinary(BinaryTree tree, Void none) {
        boolean left = typeOf(tree.getLeftOperand()).getKind().isPrimitive();
        boolean right = typeOf(tree.getRightOperand()).getKind().isPrimitive();
        due("6, 10: " + tree + " is of numbers", left && right);
        due("7: " + tree + " is no division", tree.getKind() != Tree.Kind.DIVIDE && tree.getKind() != Tree.Kind.REMAINDER);
        return super.visitBinary(tree, none);
    }

    @Override
    public Void visitForLoop(ForLoopTree tree, Void none) {
        due("9: the for loop has one counter", tree.getInitializer().size() == 1 && tree.getUpdate().size() == 1);
        String counter = ((VariableTree) tree.getInitializer().get(0)).getName().toString();
        due("9: its counter is held against a bound", isBounded(tree.getCondition(), counter));
        Set<String> stepped = new TreeSet<>();
        stepsIn(tree.getUpdate().get(0), stepped);
        due("9: its counter steps", stepped.contains(counter));
        Set<String> altered = new TreeSet<>();
        stepsIn(tree.getStatement(), altered);
        due("9: nothing else alters its counter", !altered.contains(counter));
        return super.visitForLoop(tree, none);
    }

    @Override
    public Void visitWhileLoop(WhileLoopTree tree, Void none) {
        steppingLoop(tree.getCondition(), tree.getStatement());
        return super.visitWhileLoop(tree, none);
    }

    @Override
    public Void visitDoWhileLoop(DoWhileLoopTree tree, Void none) {
        steppingLoop(tree.getCondition(), tree.getStatement());
        return super.visitDoWhileLoop(tree, none);
    }

    private void steppingLoop(ExpressionTree condition, StatementTree body) {
        Set<String> stepped = new TreeSet<>();
        for (StatementTree statement : ((BlockTree) body).getStatements()) {
            if (statement instanceof ExpressionStatementTree) {
                stepsIn(statement, stepped);
            }
        }
        boolean isBounded = false;
        for (String counter : stepped) {
            isBounded |= isBounded(condition, counter);
        }
        due("9: a counter of the loop steps each time and is held against a bound", isBounded);
    }

    /** The condition is a comparison of the counter, or has one beside "&&". */
    private static boolean isBounded(ExpressionTree condition, String counter) {
        ExpressionTree bare = condition instanceof ParenthesizedTree ? ((ParenthesizedTree) condition).getExpression() : condition;
        if (!(bare instanceof BinaryTree)) {
            return false;
        }
        BinaryTree binary = (BinaryTree) bare;
        if (binary.getKind() == Tree.Kind.CONDITIONAL_AND) {
            return isBounded(binary.getLeftOperand(), counter) || isBounded(binary.getRightOperand(), counter);
        }
        return COMPARISONS.contains(binary.getKind()) && binary.getLeftOperand().toString().equals(counter);
    }

    /** Names of what "++", "--" and assignments alter. */
    private static void stepsIn(Tree tree, Set<String> names) {
        new com.sun.source.util.TreeScanner<Void, Void>() {
            @Override
            public Void visitUnary(UnaryTree unary, Void none) {
                switch (unary.getKind()) {
                    case PREFIX_INCREMENT:
                    case PREFIX_DECREMENT:
                    case POSTFIX_INCREMENT:
                    case POSTFIX_DECREMENT:
                        names.add(unary.getExpression().toString());
                        break;
                    default:
                        break;
                }
                return super.visitUnary(unary, none);
            }

            @Override
            public Void visitAssignment(AssignmentTree assignment, Void none) {
                names.add(assignment.getVariable().toString());
                return super.visitAssignment(assignment, none);
            }

            @Override
            public Void visitCompoundAssignment(CompoundAssignmentTree assignment, Void none) {
                names.add(assignment.getVariable().toString());
                return super.visitCompoundAssignment(assignment, none);
            }
        }.scan(tree, null);
    }
}
