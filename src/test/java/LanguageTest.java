import com.sun.source.tree.*;
import com.sun.source.util.JavacTask;
import com.sun.source.util.SourcePositions;
import com.sun.source.util.TreePath;
import com.sun.source.util.TreePathScanner;
import com.sun.source.util.TreeScanner;
import com.sun.source.util.Trees;
import java.nio.file.Files;
import java.nio.file.Path;
import java.util.ArrayList;
import java.util.EnumSet;
import java.util.LinkedHashSet;
import java.util.List;
import java.util.Map;
import java.util.Set;
import java.util.TreeMap;
import javax.lang.model.element.Element;
import javax.lang.model.element.ElementKind;
import javax.lang.model.element.Modifier;
import javax.lang.model.type.ArrayType;
import javax.lang.model.type.TypeKind;
import javax.lang.model.type.TypeMirror;
import javax.tools.JavaCompiler;
import javax.tools.StandardJavaFileManager;
import javax.tools.ToolProvider;

/**
 * The rules of ../shared/LANGUAGE.md, each fault with its number, on the tree that the compiler itself makes of the source.
 * In some the class is held to more than the rule asks: it has no recursion, no loop but a counted one, and makes no object
 * outside a constructor. (That no index makes the machine throw is seen by the sweeps, not here.)
 */
public final class LanguageTest extends TreePathScanner<Void, Void> {
    private static final Path SOURCE = Path.of("src/main/java/ShiftGrids.java");
    private static final int MOST_PARAMETERS = 7, MOST_LINES = 60, MOST_DEEP = 8, MOST_CLASSES = 12, MOST_FIELDS = 20;
    private static final Set<String> LIBRARY = Set.of(
        "java.lang.Math.max", "java.lang.Math.min", "java.lang.Math.abs", "java.lang.Math.floorDiv", "java.lang.Math.floorMod",
        "java.lang.System.arraycopy", "java.util.Arrays.fill", "java.util.Arrays.copyOf", "java.util.Arrays.copyOfRange");
    private static final Set<TypeKind> NUMBERS = EnumSet.of(TypeKind.INT, TypeKind.LONG, TypeKind.SHORT, TypeKind.BYTE, TypeKind.CHAR, TypeKind.BOOLEAN);

    private static final List<String> faults = new ArrayList<>();

    private final Trees trees;
    private final CompilationUnitTree unit;
    private final Map<String, Set<String>> calls = new TreeMap<>();
    private int classes;

    private LanguageTest(Trees trees, CompilationUnitTree unit) {
        this.trees = trees;
        this.unit = unit;
    }

    public static void main(String[] args) throws Exception {
        check(Files.readString(SOURCE).chars().allMatch(c -> c == '\n' || c >= 32 && c < 127), "4: a sign beyond 127, a tab or a return");
        JavaCompiler compiler = ToolProvider.getSystemJavaCompiler();
        try (StandardJavaFileManager files = compiler.getStandardFileManager(null, null, null)) {
            JavacTask task = (JavacTask) compiler.getTask(null, files, null, List.of("-proc:none"), null, files.getJavaFileObjects(SOURCE));
            CompilationUnitTree unit = task.parse().iterator().next();
            task.analyze();
            LanguageTest test = new LanguageTest(Trees.instance(task), unit);
            test.scan(unit, null);
            test.depths();
            check(test.classes > 1 && test.calls.size() > 20, "the source was not read");
        }
        faults.forEach(f -> System.out.println("LanguageTest: rule " + f));
        System.out.println("LanguageTest: " + faults.size() + " faults");
        if (!faults.isEmpty()) {
            System.exit(1);
        }
    }

    private static void check(boolean holds, String fault) {
        if (!holds) {
            faults.add(fault);
        }
    }

    private void checkHere(boolean holds, Tree tree, String fault) {
        check(holds, fault + " (line " + line(trees.getSourcePositions().getStartPosition(unit, tree)) + ")");
    }

    private long line(long position) {
        return unit.getLineMap().getLineNumber(position);
    }

    private Element elementOf(Tree tree) {
        return trees.getElement(new TreePath(getCurrentPath(), tree));
    }

    private TypeMirror typeOf(Tree tree) {
        return trees.getTypeMirror(new TreePath(getCurrentPath(), tree));
    }

    private static boolean isOwn(Element e) {
        Element outermost = e;
        while (outermost.getEnclosingElement() != null && outermost.getEnclosingElement().getKind() != ElementKind.PACKAGE) {
            outermost = outermost.getEnclosingElement();
        }
        return outermost.getSimpleName().contentEquals("ShiftGrids");
    }

    @Override
    public Void visitCompilationUnit(CompilationUnitTree tree, Void v) {
        check(tree.getPackageName() == null && tree.getImports().isEmpty(), "4: a package or an import");
        check(tree.getTypeDecls().size() == 1, "1: more than one class beside another");
        return super.visitCompilationUnit(tree, v);
    }

    // ---- classes, fields, methods

    @Override
    public Void visitClass(ClassTree tree, Void v) {
        classes++;
        check(classes <= MOST_CLASSES, "11: more than " + MOST_CLASSES + " classes");
        Tree around = getCurrentPath().getParentPath().getLeaf();
        Set<Modifier> modifiers = tree.getModifiers().getFlags();
        boolean isOutermost = around == unit;
        checkHere(isOutermost || around instanceof ClassTree, tree, "2: a local or anonymous class");
        checkHere(isOutermost || modifiers.contains(Modifier.STATIC), tree, "2: a class inside that is not static");
        checkHere(tree.getKind() == Tree.Kind.CLASS && tree.getExtendsClause() == null && tree.getImplementsClause().isEmpty(), tree, "2: more than a plain class");
        int fields = 0;
        for (Tree member : tree.getMembers()) {
            boolean isField = member instanceof VariableTree;
            fields += isField && !((VariableTree) member).getModifiers().getFlags().contains(Modifier.STATIC) ? 1 : 0;
            checkHere(!(member instanceof BlockTree), member, "5: a block that runs as the class or an object is made");
        }
        checkHere(fields <= MOST_FIELDS, tree, "11: more than " + MOST_FIELDS + " fields");
        return super.visitClass(tree, v);
    }

    @Override
    public Void visitVariable(VariableTree tree, Void v) {
        TypeMirror type = typeOf(tree.getType());
        checkHere(isAllowed(type), tree, "3: the type " + type);
        boolean isField = getCurrentPath().getParentPath().getLeaf() instanceof ClassTree;
        checkHere(!isField || type.getKind().isPrimitive() || tree.getModifiers().getFlags().contains(Modifier.FINAL), tree, "7: a field that may come to be null");
        if (tree.getModifiers().getFlags().contains(Modifier.STATIC)) {
            boolean isConstant = ((javax.lang.model.element.VariableElement) trees.getElement(getCurrentPath())).getConstantValue() != null;
            checkHere(tree.getModifiers().getFlags().contains(Modifier.FINAL) && isConstant, tree, "5: a static field that is no constant");
        }
        return super.visitVariable(tree, v);
    }

    /** Numbers, arrays of them in one dimension, own classes, arrays of these in one dimension: what the class does with. */
    private static boolean isAllowed(TypeMirror type) {
        TypeMirror part = type.getKind() == TypeKind.ARRAY ? ((ArrayType) type).getComponentType() : type;
        return NUMBERS.contains(part.getKind()) || part.getKind() == TypeKind.DECLARED && part.toString().startsWith("ShiftGrids");
    }

    @Override
    public Void visitMethod(MethodTree tree, Void v) {
        SourcePositions positions = trees.getSourcePositions();
        long end = positions.getEndPosition(unit, tree);
        // The compiler's own constructors have no end in the source.
        long lines = end < 0 ? 0 : line(end) - line(positions.getStartPosition(unit, tree)) + 1;
        checkHere(lines <= MOST_LINES, tree, "11: a method of " + lines + " lines");
        checkHere(tree.getParameters().size() <= MOST_PARAMETERS, tree, "11: more than " + MOST_PARAMETERS + " parameters");
        checkHere(tree.getThrows().isEmpty(), tree, "6: throws");
        Set<Modifier> modifiers = tree.getModifiers().getFlags();
        checkHere(!modifiers.contains(Modifier.SYNCHRONIZED) && !modifiers.contains(Modifier.NATIVE), tree, "6: synchronized, or native");
        calls.computeIfAbsent(nameOf(trees.getElement(getCurrentPath())), k -> new LinkedHashSet<>());
        references(tree);
        return super.visitMethod(tree, v);
    }

    /** Parameters and names of a method that are references: each is held against null ahead of its first use. */
    private void references(MethodTree method) {
        Set<String> names = new LinkedHashSet<>();
        Set<String> lookedAt = new LinkedHashSet<>();
        new TreePathScanner<Void, Void>() {
            @Override
            public Void visitVariable(VariableTree tree, Void v) {
                if (!trees.getTypeMirror(new TreePath(getCurrentPath(), tree.getType())).getKind().isPrimitive()) {
                    names.add(tree.getName().toString());
                }
                return super.visitVariable(tree, v);
            }

            @Override
            public Void visitBinary(BinaryTree tree, Void v) {
                boolean isEquality = tree.getKind() == Tree.Kind.EQUAL_TO || tree.getKind() == Tree.Kind.NOT_EQUAL_TO;
                if (isEquality && tree.getRightOperand().getKind() == Tree.Kind.NULL_LITERAL) {
                    lookedAt.add(tree.getLeftOperand().toString());
                }
                return super.visitBinary(tree, v);
            }

            @Override
            public Void visitMemberSelect(MemberSelectTree tree, Void v) {
                used(tree.getExpression());
                return super.visitMemberSelect(tree, v);
            }

            @Override
            public Void visitArrayAccess(ArrayAccessTree tree, Void v) {
                used(tree.getExpression());
                return super.visitArrayAccess(tree, v);
            }

            private void used(ExpressionTree reference) {
                boolean isName = reference instanceof IdentifierTree || reference instanceof MemberSelectTree;
                checkHere(isName, reference, "7: an answer or an element that is used before it is held against null: " + reference);
                checkHere(!names.contains(reference.toString()) || lookedAt.contains(reference.toString()), reference, "7: not held against null: " + reference);
            }
        }.scan(getCurrentPath(), null);
    }

    // ---- calls

    private static String nameOf(Element method) {
        return method.getEnclosingElement() + "." + method;
    }

    /** The method in which this stands; of what stands at a field, the constructor of its class. */
    private String here() {
        TreePath path = getCurrentPath();
        while (!(path.getLeaf() instanceof MethodTree) && !(path.getParentPath().getLeaf() instanceof ClassTree)) {
            path = path.getParentPath();
        }
        Element e = trees.getElement(path);
        return path.getLeaf() instanceof MethodTree ? nameOf(e) : e.getEnclosingElement() + "." + e.getEnclosingElement().getSimpleName() + "()";
    }

    private boolean isInConstructor() {
        for (TreePath path = getCurrentPath(); path != null; path = path.getParentPath()) {
            if (path.getLeaf() instanceof MethodTree) {
                return trees.getElement(path).getKind() == ElementKind.CONSTRUCTOR;
            }
        }
        return true;
    }

    @Override
    public Void visitMethodInvocation(MethodInvocationTree tree, Void v) {
        Element called = elementOf(tree.getMethodSelect());
        String name = called.getEnclosingElement() + "." + called.getSimpleName();
        boolean isSuper = tree.getMethodSelect().toString().equals("super");
        if (!isSuper) {
            checkHere(isOwn(called) || LIBRARY.contains(name), tree, "4: the library's " + name);
            checkHere(!isInConstructor(), tree, "12: a constructor that calls a method");
            calls.computeIfAbsent(here(), k -> new LinkedHashSet<>()).add(nameOf(called));
        }
        if (name.endsWith(".floorDiv") || name.endsWith(".floorMod")) {
            divisor(tree.getArguments().get(1));
        }
        return super.visitMethodInvocation(tree, v);
    }

    @Override
    public Void visitNewClass(NewClassTree tree, Void v) {
        Element made = trees.getElement(getCurrentPath());
        checkHere(tree.getClassBody() == null && isOwn(made), tree, "2, 4: an anonymous class, or one of the library");
        checkHere(isInConstructor(), tree, "12: an object that a call makes");
        checkHere(tree.getArguments().isEmpty(), tree, "12: a constructor that may hand out what it makes");
        calls.computeIfAbsent(here(), k -> new LinkedHashSet<>()).add(nameOf(made));
        return super.visitNewClass(tree, v);
    }

    @Override
    public Void visitNewArray(NewArrayTree tree, Void v) {
        checkHere(isInConstructor(), tree, "12: an array that a call makes");
        return super.visitNewArray(tree, v);
    }

    /** No method comes to itself again, and none goes too deep, the library's counted. */
    private void depths() {
        for (String method : calls.keySet()) {
            depth(method, new ArrayList<>());
        }
    }

    private void depth(String method, List<String> above) {
        check(!above.contains(method), "8: recursion " + above + " " + method);
        check(above.size() < MOST_DEEP, "11: too deep: " + above + " " + method);
        if (!above.contains(method) && above.size() < MOST_DEEP) {
            above.add(method);
            calls.getOrDefault(method, Set.of()).forEach(next -> depth(next, above));
            above.remove(above.size() - 1);
        }
    }

    // ---- what is left out of the language

    @Override
    public Void visitThrow(ThrowTree tree, Void v) {
        return refused(tree, "6: throw");
    }

    @Override
    public Void visitTry(TryTree tree, Void v) {
        return refused(tree, "6: try");
    }

    @Override
    public Void visitSynchronized(SynchronizedTree tree, Void v) {
        return refused(tree, "6: synchronized");
    }

    @Override
    public Void visitAssert(AssertTree tree, Void v) {
        return refused(tree, "6: assert");
    }

    @Override
    public Void visitLambdaExpression(LambdaExpressionTree tree, Void v) {
        return refused(tree, "2: a lambda");
    }

    @Override
    public Void visitMemberReference(MemberReferenceTree tree, Void v) {
        return refused(tree, "2: a method reference");
    }

    private Void refused(Tree tree, String fault) {
        checkHere(false, tree, fault);
        return null;
    }

    @Override
    public Void visitTypeCast(TypeCastTree tree, Void v) {
        checkHere(typeOf(tree.getType()).getKind().isPrimitive(), tree, "6: a cast among objects");
        return super.visitTypeCast(tree, v);
    }

    @Override
    public Void visitLiteral(LiteralTree tree, Void v) {
        Tree.Kind kind = tree.getKind();
        checkHere(kind != Tree.Kind.STRING_LITERAL && kind != Tree.Kind.DOUBLE_LITERAL && kind != Tree.Kind.FLOAT_LITERAL, tree, "3: a text or a broken number");
        return super.visitLiteral(tree, v);
    }

    // ---- divisors and loops

    @Override
    public Void visitBinary(BinaryTree tree, Void v) {
        if (tree.getKind() == Tree.Kind.DIVIDE || tree.getKind() == Tree.Kind.REMAINDER) {
            divisor(tree.getRightOperand());
        }
        return super.visitBinary(tree, v);
    }

    @Override
    public Void visitCompoundAssignment(CompoundAssignmentTree tree, Void v) {
        checkHere(tree.getKind() != Tree.Kind.DIVIDE_ASSIGNMENT && tree.getKind() != Tree.Kind.REMAINDER_ASSIGNMENT, tree, "7: a divisor that is not looked at");
        return super.visitCompoundAssignment(tree, v);
    }

    /** A divisor is a constant that is not 0, or stands behind a question of the form "divisor > 0 ?". */
    private void divisor(ExpressionTree divisor) {
        Element named = elementOf(divisor);
        boolean isConstant = divisor instanceof LiteralTree l && !"0".equals(String.valueOf(l.getValue()))
            || named instanceof javax.lang.model.element.VariableElement e && e.getConstantValue() instanceof Number n && n.longValue() != 0;
        String looked = divisor.toString().replace("2 * ", "") + " > 0";
        boolean isLookedAt = false;
        for (TreePath path = getCurrentPath(); path.getParentPath() != null && !(path.getLeaf() instanceof MethodTree); path = path.getParentPath()) {
            Tree above = path.getParentPath().getLeaf();
            isLookedAt |= above instanceof ConditionalExpressionTree c && c.getTrueExpression() == path.getLeaf() && c.getCondition().toString().equals("(" + looked + ")")
                || above instanceof ConditionalExpressionTree d && d.getTrueExpression() == path.getLeaf() && d.getCondition().toString().equals(looked);
        }
        checkHere(isConstant || isLookedAt, divisor, "7: a divisor that is not looked at: " + divisor);
    }

    @Override
    public Void visitWhileLoop(WhileLoopTree tree, Void v) {
        return refused(tree, "9: a loop that is not counted");
    }

    @Override
    public Void visitDoWhileLoop(DoWhileLoopTree tree, Void v) {
        return refused(tree, "9: a loop that is not counted");
    }

    /** A loop has one counter, which its head alone changes, by one towards the bound that the head holds it against first. */
    @Override
    public Void visitForLoop(ForLoopTree tree, Void v) {
        boolean isCounted = tree.getInitializer().size() == 1 && tree.getInitializer().get(0) instanceof VariableTree && tree.getUpdate().size() == 1 && tree.getCondition() != null;
        checkHere(isCounted, tree, "9: a loop that is not counted");
        if (isCounted) {
            String counter = ((VariableTree) tree.getInitializer().get(0)).getName().toString();
            String update = tree.getUpdate().get(0).toString().replace(";", "");
            String condition = tree.getCondition().toString();
            boolean isUp = update.equals(counter + "++") && condition.matches("\\(*" + counter + " <=? .*");
            boolean isDown = update.equals(counter + "--") && condition.matches("\\(*" + counter + " >=? 0.*");
            checkHere((isUp || isDown) && !condition.contains("||"), tree, "9: a loop whose end can't be seen: " + condition + "; " + update);
            checkHere(!isChanged(counter, tree.getStatement()), tree, "9: a loop that changes its counter");
        }
        return super.visitForLoop(tree, v);
    }

    private static boolean isChanged(String name, Tree body) {
        boolean[] found = {false};
        new TreeScanner<Void, Void>() {
            @Override
            public Void visitAssignment(AssignmentTree tree, Void v) {
                found[0] |= tree.getVariable().toString().equals(name);
                return super.visitAssignment(tree, v);
            }

            @Override
            public Void visitCompoundAssignment(CompoundAssignmentTree tree, Void v) {
                found[0] |= tree.getVariable().toString().equals(name);
                return super.visitCompoundAssignment(tree, v);
            }

            @Override
            public Void visitUnary(UnaryTree tree, Void v) {
                boolean isStep = !EnumSet.of(Tree.Kind.UNARY_MINUS, Tree.Kind.UNARY_PLUS, Tree.Kind.LOGICAL_COMPLEMENT, Tree.Kind.BITWISE_COMPLEMENT).contains(tree.getKind());
                found[0] |= isStep && tree.getExpression().toString().equals(name);
                return super.visitUnary(tree, v);
            }
        }.scan(body, null);
        return found[0];
    }
}
