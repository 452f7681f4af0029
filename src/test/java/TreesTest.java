import com.sun.source.tree.ArrayAccessTree;
import com.sun.source.tree.AssignmentTree;
import com.sun.source.tree.BinaryTree;
import com.sun.source.tree.ClassTree;
import com.sun.source.tree.CompilationUnitTree;
import com.sun.source.tree.CompoundAssignmentTree;
import com.sun.source.tree.ExpressionTree;
import com.sun.source.tree.ForLoopTree;
import com.sun.source.tree.LineMap;
import com.sun.source.tree.LiteralTree;
import com.sun.source.tree.MethodInvocationTree;
import com.sun.source.tree.MethodTree;
import com.sun.source.tree.ModifiersTree;
import com.sun.source.tree.NewArrayTree;
import com.sun.source.tree.NewClassTree;
import com.sun.source.tree.ParenthesizedTree;
import com.sun.source.tree.Tree;
import com.sun.source.tree.TypeCastTree;
import com.sun.source.tree.UnaryTree;
import com.sun.source.tree.VariableTree;
import com.sun.source.tree.WhileLoopTree;
import com.sun.source.util.JavacTask;
import com.sun.source.util.TreePathScanner;
import com.sun.source.util.Trees;
import java.nio.file.Path;
import java.util.ArrayDeque;
import java.util.ArrayList;
import java.util.Deque;
import java.util.EnumSet;
import java.util.HashMap;
import java.util.HashSet;
import java.util.LinkedHashMap;
import java.util.LinkedHashSet;
import java.util.List;
import java.util.Map;
import java.util.Set;
import javax.lang.model.element.Element;
import javax.lang.model.element.ElementKind;
import javax.lang.model.element.ExecutableElement;
import javax.lang.model.element.Modifier;
import javax.lang.model.type.TypeKind;
import javax.lang.model.type.TypeMirror;
import javax.tools.JavaCompiler;
import javax.tools.StandardJavaFileManager;
import javax.tools.ToolProvider;

/** LANGUAGE.md's rules as javac's own trees tell them: what is called and made where, and how deep calls go. */
public final class TreesTest extends TreePathScanner<Void, Void> {
    private static final Checks CHECKS = new Checks();
    private static final Path SOURCE = Path.of("src/main/java/ChangeBowler.java");
    private static final Set<Tree.Kind> BANNED = EnumSet.of(
        Tree.Kind.LAMBDA_EXPRESSION, Tree.Kind.MEMBER_REFERENCE, Tree.Kind.THROW, Tree.Kind.TRY, Tree.Kind.CATCH,
        Tree.Kind.SYNCHRONIZED, Tree.Kind.ASSERT, Tree.Kind.ANNOTATION, Tree.Kind.SWITCH_EXPRESSION, Tree.Kind.YIELD,
        Tree.Kind.IMPORT, Tree.Kind.PACKAGE, Tree.Kind.STRING_LITERAL, Tree.Kind.DOUBLE_LITERAL, Tree.Kind.FLOAT_LITERAL,
        Tree.Kind.ANNOTATED_TYPE, Tree.Kind.UNION_TYPE, Tree.Kind.RECORD, Tree.Kind.ENUM,
        Tree.Kind.INTERFACE, Tree.Kind.ANNOTATION_TYPE);
    private static final Set<String> LIBRARY = Set.of("arraycopy(java.lang.Object,int,java.lang.Object,int,int)", "min(int,int)", "max(int,int)");
    private static final Set<Modifier> FLAGS = EnumSet.of(Modifier.PUBLIC, Modifier.PRIVATE, Modifier.STATIC, Modifier.FINAL);
    private static final int LONGEST = 60, DEEPEST = 8, OPEN_AT_ONCE = 300;

    private final String source;
    private final Trees trees;
    private final CompilationUnitTree unit;
    private final LineMap lines;
    private final Map<Element, Set<Element>> calls = new LinkedHashMap<>();
    private ExecutableElement within;
    private int classes;

    private TreesTest(String source, Trees trees, CompilationUnitTree unit) {
        this.source = source;
        this.trees = trees;
        this.unit = unit;
        lines = unit.getLineMap();
    }

    public static void main(String[] args) throws Exception {
        JavaCompiler compiler = ToolProvider.getSystemJavaCompiler();
        try (StandardJavaFileManager files = compiler.getStandardFileManager(null, null, null)) {
            JavacTask task = (JavacTask) compiler.getTask(null, files, null, List.of("-proc:none"), null, files.getJavaFileObjects(SOURCE));
            CompilationUnitTree unit = task.parse().iterator().next();
            task.analyze();
            String source = unit.getSourceFile().getCharContent(true).toString();
            CHECKS.holds("signs are 1 to 127", source.chars().allMatch(ch -> ch > 0 && ch < 128));
            TreesTest test = new TreesTest(source, Trees.instance(task), unit);
            test.scan(unit, null);
            CHECKS.holds("classes were seen: " + test.classes, test.classes > 1);
            test.depths();
        }
        CHECKS.end();
    }

    private String at(Tree t) {
        return "line " + lines.getLineNumber(start(t)) + ": " + t.toString().lines().filter(l -> !l.isBlank()).findFirst().orElse("");
    }

    private long start(Tree t) {
        return trees.getSourcePositions().getStartPosition(unit, t);
    }

    private Element element(Tree t) {
        return trees.getElement(trees.getPath(unit, t));
    }

    @Override
    public Void scan(Tree t, Void none) {
        if (t != null) CHECKS.holds("no " + t.getKind() + ", " + at(t), !BANNED.contains(t.getKind()));
        return super.scan(t, none);
    }

    @Override
    public Void visitClass(ClassTree c, Void none) {
        classes++;
        boolean nested = getCurrentPath().getParentPath().getLeaf() != unit;
        Set<Modifier> flags = c.getModifiers().getFlags();
        CHECKS.holds("static and shut, " + at(c), !nested || flags.contains(Modifier.STATIC) && !flags.contains(Modifier.PUBLIC));
        CHECKS.holds("a class has a name, " + at(c), c.getSimpleName().length() > 0);
        return super.visitClass(c, none);
    }

    @Override
    public Void visitModifiers(ModifiersTree m, Void none) {
        CHECKS.holds("plain modifiers, " + at(m), FLAGS.containsAll(m.getFlags()));
        return super.visitModifiers(m, none);
    }

    @Override
    public Void visitMethod(MethodTree m, Void none) {
        within = (ExecutableElement) element(m);
        calls.putIfAbsent(within, new LinkedHashSet<>());
        long end = trees.getSourcePositions().getEndPosition(unit, m);
        // the constructor that javac adds to a class without one has no lines of its own
        long length = end < 0 ? 1 : lines.getLineNumber(end) - lines.getLineNumber(start(m)) + 1;
        CHECKS.holds("sixty lines at most, " + at(m), length <= LONGEST);
        CHECKS.holds("seven parameters at most, " + at(m), m.getParameters().size() <= 7);
        super.visitMethod(m, none);
        within = null;
        return null;
    }

    @Override
    public Void visitMethodInvocation(MethodInvocationTree call, Void none) {
        ExecutableElement to = (ExecutableElement) element(call);
        boolean own = to.getEnclosingElement().toString().startsWith("ChangeBowler");
        boolean implied = to.getKind() == ElementKind.CONSTRUCTOR;
        CHECKS.holds("the library's part, " + at(call), own || implied || LIBRARY.contains(to.toString()));
        if (own && !implied) calls.computeIfAbsent(within, k -> new LinkedHashSet<>()).add(to);
        return super.visitMethodInvocation(call, none);
    }

    /** Made once, with the object: in a constructor, or where a field that is final begins. */
    private boolean madeOnce() {
        if (within != null) return within.getKind() == ElementKind.CONSTRUCTOR;
        for (Tree t : getCurrentPath()) {
            if (t instanceof VariableTree v) return v.getModifiers().getFlags().contains(Modifier.FINAL);
        }
        return false;
    }

    @Override
    public Void visitNewClass(NewClassTree made, Void none) {
        CHECKS.holds("made once, no class without a name, " + at(made), madeOnce() && made.getClassBody() == null);
        return super.visitNewClass(made, none);
    }

    @Override
    public Void visitNewArray(NewArrayTree made, Void none) {
        CHECKS.holds("made once, " + at(made), madeOnce());
        for (ExpressionTree size : made.getDimensions()) {
            CHECKS.holds("as long as constants say, " + at(made), isFixed(size));
        }
        return super.visitNewArray(made, none);
    }

    private boolean isFixed(ExpressionTree t) {
        if (t instanceof ParenthesizedTree p) return isFixed(p.getExpression());
        if (t instanceof BinaryTree b) return isFixed(b.getLeftOperand()) && isFixed(b.getRightOperand());
        return isNumber(t) || isConstant(t);
    }

    @Override
    public Void visitVariable(VariableTree v, Void none) {
        Element e = element(v);
        CHECKS.holds("numbers, rows of them and own classes alone, " + at(v), isNumbers(e.asType()) || isOwn(e.asType()));
        boolean whole = e.getKind() == ElementKind.FIELD && e.getModifiers().contains(Modifier.STATIC);
        CHECKS.holds("what is static is final, " + at(v), !whole || e.getModifiers().contains(Modifier.FINAL));
        if (whole) CHECKS.holds("a constant, or a row written out, " + at(v), v.getInitializer() != null && isNumbers(e.asType()));
        return super.visitVariable(v, none);
    }

    private static boolean isOwn(TypeMirror type) {
        return type.toString().matches("ChangeBowler(\\.\\w+)?");
    }

    private static boolean isNumbers(TypeMirror type) {
        boolean broken = type.getKind() == TypeKind.DOUBLE || type.getKind() == TypeKind.FLOAT;
        return type.getKind().isPrimitive() && !broken || type.toString().matches("(int|long|char|byte)\\[\\]");
    }

    private void keepsRows(ExpressionTree to) {
        if (!(to instanceof ArrayAccessTree a)) return;
        Element row = element(a.getExpression());
        CHECKS.holds("a static row is never changed, " + at(to), row == null || !row.getModifiers().contains(Modifier.STATIC));
    }

    @Override
    public Void visitAssignment(AssignmentTree a, Void none) {
        keepsRows(a.getVariable());
        return super.visitAssignment(a, none);
    }

    @Override
    public Void visitCompoundAssignment(CompoundAssignmentTree a, Void none) {
        keepsRows(a.getVariable());
        divides(a, a.getKind(), a.getExpression(), Tree.Kind.DIVIDE_ASSIGNMENT, Tree.Kind.REMAINDER_ASSIGNMENT);
        return super.visitCompoundAssignment(a, none);
    }

    @Override
    public Void visitUnary(UnaryTree u, Void none) {
        keepsRows(u.getExpression());
        return super.visitUnary(u, none);
    }

    @Override
    public Void visitBinary(BinaryTree b, Void none) {
        divides(b, b.getKind(), b.getRightOperand(), Tree.Kind.DIVIDE, Tree.Kind.REMAINDER);
        return super.visitBinary(b, none);
    }

    /** A divisor is a number, a constant, a sum with a number, or looked at against 0 ahead in the same method. */
    private void divides(Tree t, Tree.Kind kind, ExpressionTree by, Tree.Kind whole, Tree.Kind rest) {
        if (kind != whole && kind != rest) return;
        boolean sum = by instanceof ParenthesizedTree p && p.getExpression() instanceof BinaryTree b
            && b.getKind() == Tree.Kind.PLUS && isNumber(b.getRightOperand());
        CHECKS.holds("a divisor is looked at, " + at(t), isNumber(by) || isConstant(by) || sum || lookedAt(t, by.toString()));
    }

    private static boolean isNumber(ExpressionTree t) {
        return t instanceof LiteralTree l && l.getValue() instanceof Integer n && n > 0;
    }

    private boolean isConstant(ExpressionTree t) {
        Element e = element(t);
        return e != null && e.getModifiers().containsAll(Set.of(Modifier.STATIC, Modifier.FINAL));
    }

    private boolean lookedAt(Tree t, String divisor) {
        Tree body = trees.getTree(within).getBody();
        return source.substring((int) start(body), (int) start(t)).contains(divisor + " == 0");
    }

    @Override
    public Void visitTypeCast(TypeCastTree cast, Void none) {
        TypeKind to = trees.getTypeMirror(trees.getPath(unit, cast.getType())).getKind();
        CHECKS.holds("only numbers are cast, " + at(cast), to.isPrimitive());
        return super.visitTypeCast(cast, none);
    }

    @Override
    public Void visitForLoop(ForLoopTree loop, Void none) {
        CHECKS.holds("a loop has an end, " + at(loop), loop.getCondition() != null);
        return super.visitForLoop(loop, none);
    }

    @Override
    public Void visitWhileLoop(WhileLoopTree loop, Void none) {
        CHECKS.holds("a loop has an end, " + at(loop), !loop.getCondition().toString().equals("(true)"));
        return super.visitWhileLoop(loop, none);
    }

    // ---- how deep calls go

    private void depths() {
        Map<Element, Integer> known = new HashMap<>();
        int deepest = 0;
        for (Element m : calls.keySet()) deepest = Math.max(deepest, depth(m, known));
        CHECKS.holds("calls that are no recursion go eight deep at most: " + deepest, deepest > 1 && deepest <= DEEPEST);
        for (Element m : calls.keySet()) {
            if (!reached(m).contains(m)) continue;
            ExecutableElement e = (ExecutableElement) m;
            CHECKS.holds("a public method is no recursion: " + m, !m.getModifiers().contains(Modifier.PUBLIC));
            CHECKS.holds("a recursion carries a number: " + m, e.getParameters().stream().anyMatch(p -> p.asType().getKind() == TypeKind.INT));
        }
        CHECKS.holds("methods were seen: " + calls.size(), calls.size() > 38 && calls.size() < OPEN_AT_ONCE);
    }

    /** All that a method may come to call. */
    private Set<Element> reached(Element m) {
        Set<Element> all = new HashSet<>();
        Deque<Element> open = new ArrayDeque<>(calls.getOrDefault(m, Set.of()));
        while (!open.isEmpty()) {
            Element next = open.pop();
            if (all.add(next)) open.addAll(calls.getOrDefault(next, Set.of()));
        }
        return all;
    }

    /** The longest way down; those that call one another count once. */
    private int depth(Element m, Map<Element, Integer> known) {
        Integer had = known.get(m);
        if (had != null) return had;
        List<Element> ring = new ArrayList<>(List.of(m));
        for (Element e : reached(m)) {
            if (e != m && reached(e).contains(m)) ring.add(e);
        }
        int below = 0;
        for (Element e : ring) {
            for (Element to : calls.getOrDefault(e, Set.of())) {
                if (!ring.contains(to)) below = Math.max(below, depth(to, known));
            }
        }
        for (Element e : ring) known.put(e, below + 1);
        return below + 1;
    }
}
