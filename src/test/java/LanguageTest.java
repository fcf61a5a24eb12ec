import com.sun.source.tree.*;
import com.sun.source.util.JavacTask;
import com.sun.source.util.TreePath;
import com.sun.source.util.TreePathScanner;
import com.sun.source.util.Trees;
import java.io.IOException;
import java.io.StringWriter;
import java.nio.file.Path;
import java.util.ArrayList;
import java.util.Collection;
import java.util.EnumSet;
import java.util.List;
import java.util.Map;
import java.util.Set;
import java.util.TreeMap;
import java.util.TreeSet;
import javax.lang.model.element.Element;
import javax.lang.model.element.ElementKind;
import javax.lang.model.element.ExecutableElement;
import javax.lang.model.element.Modifier;
import javax.lang.model.element.TypeElement;
import javax.lang.model.element.VariableElement;
import javax.lang.model.type.TypeMirror;
import javax.tools.JavaCompiler;
import javax.tools.StandardJavaFileManager;
import javax.tools.ToolProvider;

/**
 * The rules of LANGUAGE.md, looked for in the tree that the compiler makes of the source. Where a rule
 * leaves more than the class uses, the test asks for what the class uses: it is to be widened on purpose.
 */
public final class LanguageTest extends TreePathScanner<Void, Void> {
    private static final Path SOURCE = Path.of("src/main/java/UnsaidRound.java");
    private static final String CLASS = "UnsaidRound";
    private static final int MOST_DEEP = 8;
    private static final int MOST_PARAMETERS = 7;
    private static final int MOST_CLASSES = 12;
    private static final int MOST_FIELDS = 20;
    private static final int MOST_LINES = 60;

    private static final Set<Tree.Kind> RULED_OUT = EnumSet.of(Tree.Kind.THROW, Tree.Kind.TRY, Tree.Kind.CATCH,
        Tree.Kind.SYNCHRONIZED, Tree.Kind.ASSERT, Tree.Kind.LAMBDA_EXPRESSION, Tree.Kind.MEMBER_REFERENCE,
        Tree.Kind.IMPORT, Tree.Kind.PACKAGE, Tree.Kind.ANNOTATION, Tree.Kind.BINDING_PATTERN, Tree.Kind.YIELD,
        Tree.Kind.DOUBLE_LITERAL, Tree.Kind.FLOAT_LITERAL, Tree.Kind.INSTANCE_OF, Tree.Kind.ENHANCED_FOR_LOOP);
    private static final Set<String> LIBRARY = Set.of("java.lang.Math.max", "java.lang.Math.min", "java.lang.Math.abs",
        "java.lang.Integer.bitCount", "java.lang.System.arraycopy", "java.lang.String.length", "java.lang.String.charAt");
    private static final Set<String> TYPES = Set.of("int", "long", "boolean", "void", "int[]", "long[]", "java.lang.String",
        "UnsaidRound.Green", "UnsaidRound.Tape", "UnsaidRound.Sheets");
    private static final Set<String> CASTS = Set.of("int", "byte", "short");
    private static final Set<String> CONSTANTS = Set.of("int", "long", "boolean", "char", "java.lang.String");

    private final Trees trees;
    private final CompilationUnitTree unit;
    private final Map<String, Set<String>> calls = new TreeMap<>();
    private final Set<String> openCalls = new TreeSet<>();
    private int wrong;
    private int classes;

    private LanguageTest(Trees trees, CompilationUnitTree unit) {
        this.trees = trees;
        this.unit = unit;
    }

    public static void main(String[] args) throws IOException {
        JavaCompiler compiler = ToolProvider.getSystemJavaCompiler();
        try (StandardJavaFileManager files = compiler.getStandardFileManager(null, null, null)) {
            JavacTask task = (JavacTask) compiler.getTask(new StringWriter(), files, null, List.of("-proc:none"), null,
                files.getJavaFileObjects(SOURCE));
            CompilationUnitTree unit = task.parse().iterator().next();
            task.analyze();
            LanguageTest test = new LanguageTest(Trees.instance(task), unit);
            test.scan(new TreePath(unit), null);
            test.whole();
            System.out.println(test.wrong == 0 ? "the language is kept" : test.wrong + " places are outside the language");
            if (test.wrong != 0) {
                System.exit(1);
            }
        }
    }

    private void fail(int rule, Tree at, String what) {
        wrong++;
        System.out.println("rule " + rule + ", line " + lineOf(at) + ": " + what);
    }

    private void fail(int rule, String what) {
        wrong++;
        System.out.println("rule " + rule + ": " + what);
    }

    private long lineOf(Tree tree) {
        return unit.getLineMap().getLineNumber(trees.getSourcePositions().getStartPosition(unit, tree));
    }

    private long lastLineOf(Tree tree) {
        return unit.getLineMap().getLineNumber(trees.getSourcePositions().getEndPosition(unit, tree));
    }

    private Element element() {
        return trees.getElement(getCurrentPath());
    }

    private String typeOf(Tree tree) {
        TypeMirror type = trees.getTypeMirror(new TreePath(getCurrentPath(), tree));
        return type == null ? "?" : type.toString();
    }

    @Override
    public Void scan(Tree tree, Void nothing) {
        if (tree != null && RULED_OUT.contains(tree.getKind())) {
            fail(6, tree, tree.getKind() + " is ruled out, or not used so far");
        }
        return super.scan(tree, nothing);
    }

    // ---- classes and their members

    @Override
    public Void visitClass(ClassTree tree, Void nothing) {
        classes++;
        Tree around = getCurrentPath().getParentPath().getLeaf();
        Set<Modifier> flags = tree.getModifiers().getFlags();
        if (around instanceof CompilationUnitTree) {
            if (!tree.getSimpleName().contentEquals(CLASS) || !flags.equals(Set.of(Modifier.PUBLIC, Modifier.FINAL))) {
                fail(1, tree, "the class in the file is not public final " + CLASS);
            }
        } else if (!(around instanceof ClassTree) || !flags.contains(Modifier.STATIC) || flags.contains(Modifier.PUBLIC)) {
            fail(2, tree, tree.getSimpleName() + " is no static class inside the class");
        }
        int fields = 0;
        for (Tree member : tree.getMembers()) {
            if (member instanceof VariableTree field) {
                fields += field.getModifiers().getFlags().contains(Modifier.STATIC) ? 0 : 1;
            }
            if (member instanceof BlockTree) {
                fail(5, member, "a block stands beside the methods");
            }
        }
        if (fields > MOST_FIELDS) {
            fail(11, tree, tree.getSimpleName() + " has " + fields + " fields");
        }
        return super.visitClass(tree, nothing);
    }

    @Override
    public Void visitVariable(VariableTree tree, Void nothing) {
        String type = element().asType().toString();
        if (!TYPES.contains(type)) {
            fail(3, tree, "a " + type + " is used");
        }
        Set<Modifier> flags = tree.getModifiers().getFlags();
        if (flags.contains(Modifier.STATIC)) {
            boolean isConstant = ((VariableElement) element()).getConstantValue() != null;
            if (!flags.contains(Modifier.FINAL) || !CONSTANTS.contains(type) || !isConstant) {
                fail(5, tree, tree.getName() + " is static, but no constant");
            }
        }
        boolean isField = element().getKind() == ElementKind.FIELD;
        if (isField && !flags.contains(Modifier.PRIVATE) && element().getEnclosingElement().getSimpleName().contentEquals(CLASS)) {
            fail(1, tree, tree.getName() + " is not private");
        }
        return super.visitVariable(tree, nothing);
    }

    @Override
    public Void visitMethod(MethodTree tree, Void nothing) {
        ExecutableElement method = (ExecutableElement) element();
        String returned = method.getReturnType().toString();
        if (!TYPES.contains(returned)) {
            fail(3, tree, tree.getName() + " answers a " + returned);
        }
        if (tree.getParameters().size() > MOST_PARAMETERS) {
            fail(11, tree, tree.getName() + " takes " + tree.getParameters().size() + " numbers");
        }
        if (lastLineOf(tree) - lineOf(tree) >= MOST_LINES) {
            fail(11, tree, tree.getName() + " is too long");
        }
        if (Set.of("equals", "hashCode", "toString").contains(tree.getName().toString())) {
            fail(6, tree, tree.getName() + " is a method of its own");
        }
        if (tree.getModifiers().getFlags().contains(Modifier.PUBLIC)) {
            openCalls.add(nameOf(method));
        }
        calls.computeIfAbsent(nameOf(method), m -> new TreeSet<>());
        return super.visitMethod(tree, nothing);
    }

    private static String nameOf(ExecutableElement method) {
        return ((TypeElement) method.getEnclosingElement()).getQualifiedName() + "." + method.getSimpleName();
    }

    // ---- what stands in the methods

    /** Null outside of every method, as in what a field begins with. */
    private MethodTree methodAround() {
        for (TreePath path = getCurrentPath(); path != null; path = path.getParentPath()) {
            if (path.getLeaf() instanceof MethodTree method) {
                return method;
            }
        }
        return null;
    }

    private String callAround() {
        for (TreePath path = getCurrentPath(); path != null; path = path.getParentPath()) {
            if (path.getLeaf() instanceof MethodTree) {
                return nameOf((ExecutableElement) trees.getElement(path));
            }
        }
        return "";
    }

    @Override
    public Void visitMethodInvocation(MethodInvocationTree tree, Void nothing) {
        ExecutableElement called = (ExecutableElement) element();
        String name = nameOf(called);
        if (name.startsWith(CLASS)) {
            calls.computeIfAbsent(callAround(), m -> new TreeSet<>()).add(name);
        } else if (!LIBRARY.contains(name) && called.getKind() != ElementKind.CONSTRUCTOR) {
            fail(4, tree, name + " is used");
        }
        return super.visitMethodInvocation(tree, nothing);
    }

    @Override
    public Void visitNewClass(NewClassTree tree, Void nothing) {
        if (tree.getClassBody() != null) {
            fail(2, tree, "a class without a name");
        }
        if (methodAround() != null) {
            fail(12, tree, "an object is made in a method");
        }
        return super.visitNewClass(tree, nothing);
    }

    @Override
    public Void visitNewArray(NewArrayTree tree, Void nothing) {
        if (methodAround() != null) {
            fail(12, tree, "an array is made in a method");
        }
        for (ExpressionTree length : tree.getDimensions()) {
            if (constant(length) == null || constant(length) < 0) {
                fail(7, length, "the length of an array is no constant");
            }
        }
        return super.visitNewArray(tree, nothing);
    }

    @Override
    public Void visitTypeCast(TypeCastTree tree, Void nothing) {
        if (!CASTS.contains(tree.getType().toString())) {
            fail(6, tree, "a cast to " + tree.getType());
        }
        return super.visitTypeCast(tree, nothing);
    }

    @Override
    public Void visitBinary(BinaryTree tree, Void nothing) {
        Tree.Kind kind = tree.getKind();
        boolean ofNumbers = isNumber(typeOf(tree.getLeftOperand())) && isNumber(typeOf(tree.getRightOperand()));
        if (kind == Tree.Kind.PLUS && !ofNumbers) {
            fail(10, tree, "texts are joined by +");
        }
        if ((kind == Tree.Kind.EQUAL_TO || kind == Tree.Kind.NOT_EQUAL_TO) && !ofNumbers) {
            fail(6, tree, "what is no number is compared by " + kind);
        }
        if (kind == Tree.Kind.DIVIDE || kind == Tree.Kind.REMAINDER) {
            divisor(tree.getRightOperand());
        }
        return super.visitBinary(tree, nothing);
    }

    @Override
    public Void visitCompoundAssignment(CompoundAssignmentTree tree, Void nothing) {
        if (tree.getKind() == Tree.Kind.DIVIDE_ASSIGNMENT || tree.getKind() == Tree.Kind.REMAINDER_ASSIGNMENT) {
            divisor(tree.getExpression());
        }
        return super.visitCompoundAssignment(tree, nothing);
    }

    private static boolean isNumber(String type) {
        return Set.of("int", "long", "byte", "short", "char").contains(type);
    }

    /** A constant that isn't 0, or what stands behind a test of it: x > 0 ? .. / x : .. */
    private void divisor(ExpressionTree divisor) {
        Integer value = constant(divisor);
        if (value != null && value != 0) {
            return;
        }
        for (TreePath path = getCurrentPath(); path != null; path = path.getParentPath()) {
            if (path.getLeaf() instanceof ConditionalExpressionTree choice
                && choice.getCondition().toString().contains(divisor + " > 0")) {
                return;
            }
        }
        fail(7, divisor, divisor + " divides untested");
    }

    /** Null for what is no constant of int. */
    private Integer constant(ExpressionTree tree) {
        if (tree instanceof ParenthesizedTree p) {
            return constant(p.getExpression());
        }
        if (tree instanceof LiteralTree l) {
            return l.getValue() instanceof Integer i ? i : null;
        }
        if (tree instanceof BinaryTree b) {
            Integer left = constant(b.getLeftOperand());
            Integer right = constant(b.getRightOperand());
            boolean both = left != null && right != null;
            return both && b.getKind() == Tree.Kind.PLUS ? Integer.valueOf(left + right)
                : both && b.getKind() == Tree.Kind.MULTIPLY ? Integer.valueOf(left * right) : null;
        }
        Element named = trees.getElement(new TreePath(getCurrentPath(), tree));
        return named instanceof VariableElement v && v.getConstantValue() instanceof Integer i ? i : null;
    }

    // ---- loops

    @Override
    public Void visitForLoop(ForLoopTree tree, Void nothing) {
        loop(tree, tree.getCondition());
        if (tree.getInitializer().size() != 1 || tree.getUpdate().size() != 1) {
            fail(9, tree, "a for without one counter");
        } else if (tree.getInitializer().get(0) instanceof VariableTree counter) {
            String name = counter.getName().toString();
            boolean goes = Set.of(name + "++", name + "--").contains(tree.getUpdate().get(0).toString().replaceAll("[ ;]", ""));
            if (!goes || !tree.getCondition().toString().matches("(?s).*\\b" + name + " (<|<=|>=|>) .*")) {
                fail(9, tree, "the counter " + name + " doesn't go against a bound");
            }
            if (isChanged(counter, tree.getStatement())) {
                fail(9, tree, "the counter " + name + " is changed inside");
            }
        }
        return super.visitForLoop(tree, nothing);
    }

    private boolean isChanged(VariableTree counter, Tree inside) {
        boolean[] changed = new boolean[1];
        new com.sun.source.util.TreeScanner<Void, Void>() {
            @Override
            public Void visitAssignment(AssignmentTree a, Void nothing) {
                changed[0] |= a.getVariable().toString().equals(counter.getName().toString());
                return super.visitAssignment(a, nothing);
            }

            @Override
            public Void visitCompoundAssignment(CompoundAssignmentTree a, Void nothing) {
                changed[0] |= a.getVariable().toString().equals(counter.getName().toString());
                return super.visitCompoundAssignment(a, nothing);
            }

            @Override
            public Void visitUnary(UnaryTree u, Void nothing) {
                changed[0] |= u.getExpression().toString().equals(counter.getName().toString());
                return super.visitUnary(u, nothing);
            }
        }.scan(inside, null);
        return changed[0];
    }

    @Override
    public Void visitWhileLoop(WhileLoopTree tree, Void nothing) {
        loop(tree, tree.getCondition());
        return super.visitWhileLoop(tree, nothing);
    }

    @Override
    public Void visitDoWhileLoop(DoWhileLoopTree tree, Void nothing) {
        loop(tree, tree.getCondition());
        return super.visitDoWhileLoop(tree, nothing);
    }

    private void loop(Tree at, ExpressionTree condition) {
        if (condition == null || !condition.toString().matches("(?s).*[<>].*")) {
            fail(9, at, "a loop without a bound in its own lines");
        }
    }

    // ---- the whole

    private void whole() {
        if (classes > MOST_CLASSES) {
            fail(11, "there are " + classes + " classes");
        }
        for (String call : openCalls) {
            List<String> deepest = deepestFrom(call, new ArrayList<>());
            if (deepest.size() > MOST_DEEP) {
                fail(11, "calls go " + deepest.size() + " deep: " + deepest);
            }
        }
        if (openCalls.size() < 40) {
            fail(1, "only " + openCalls.size() + " calls are open");
        }
    }

    /** The longest row of calls that stand open at once; one that calls itself is told and left there. */
    private List<String> deepestFrom(String call, List<String> open) {
        if (open.contains(call)) {
            fail(8, call + " comes to call itself: " + open);
            return new ArrayList<>();
        }
        open.add(call);
        List<String> best = new ArrayList<>();
        for (String next : calls.getOrDefault(call, Set.of())) {
            List<String> deeper = deepestFrom(next, open);
            if (deeper.size() > best.size()) {
                best = deeper;
            }
        }
        open.remove(call);
        List<String> row = new ArrayList<>(List.of(call));
        row.addAll((Collection<String>) best);
        return row;
    }
}
