import com.sun.source.tree.ArrayAccessTree;
import com.sun.source.tree.AssertTree;
import com.sun.source.tree.AssignmentTree;
import com.sun.source.tree.BinaryTree;
import com.sun.source.tree.BlockTree;
import com.sun.source.tree.ClassTree;
import com.sun.source.tree.CompilationUnitTree;
import com.sun.source.tree.CompoundAssignmentTree;
import com.sun.source.tree.DoWhileLoopTree;
import com.sun.source.tree.ExpressionTree;
import com.sun.source.tree.ForLoopTree;
import com.sun.source.tree.IfTree;
import com.sun.source.tree.LambdaExpressionTree;
import com.sun.source.tree.LiteralTree;
import com.sun.source.tree.MemberReferenceTree;
import com.sun.source.tree.MethodInvocationTree;
import com.sun.source.tree.MethodTree;
import com.sun.source.tree.NewArrayTree;
import com.sun.source.tree.NewClassTree;
import com.sun.source.tree.ParenthesizedTree;
import com.sun.source.tree.SynchronizedTree;
import com.sun.source.tree.ThrowTree;
import com.sun.source.tree.Tree;
import com.sun.source.tree.TryTree;
import com.sun.source.tree.TypeCastTree;
import com.sun.source.tree.UnaryTree;
import com.sun.source.tree.VariableTree;
import com.sun.source.tree.WhileLoopTree;
import com.sun.source.util.JavacTask;
import com.sun.source.util.SourcePositions;
import com.sun.source.util.TreePath;
import com.sun.source.util.TreePathScanner;
import com.sun.source.util.Trees;
import java.io.IOException;
import java.net.URI;
import java.util.ArrayList;
import java.util.Collections;
import java.util.LinkedHashMap;
import java.util.LinkedHashSet;
import java.util.List;
import java.util.Map;
import java.util.Set;
import javax.lang.model.element.Element;
import javax.lang.model.element.ElementKind;
import javax.lang.model.element.ExecutableElement;
import javax.lang.model.element.Modifier;
import javax.lang.model.element.TypeElement;
import javax.lang.model.element.VariableElement;
import javax.lang.model.type.ArrayType;
import javax.lang.model.type.TypeKind;
import javax.lang.model.type.TypeMirror;
import javax.tools.JavaCompiler;
import javax.tools.JavaFileObject;
import javax.tools.SimpleJavaFileObject;
import javax.tools.ToolProvider;

/** Reads a source's tree and tells where it goes beyond LANGUAGE.md: "rule N: what, line L" for each place. */
final class SourceRules extends TreePathScanner<Void, Void> {
    private static final int MOST_PARAMETERS = 7, MOST_LINES = 60, MOST_DEEP = 8;

    /** What rule 4 lists, as far as a class that makes no texts and no lists may need it. */
    private static final Set<String> LIBRARY = Set.of("String.length", "String.charAt", "String.isEmpty", "String.equals",
        "System.arraycopy", "Arrays.copyOf", "Arrays.copyOfRange", "Arrays.fill", "Object.<init>");
    private static final Set<String> NUMBERS = Set.of("Integer", "Long", "Math");

    private final List<String> found = new ArrayList<>();
    private final Map<ExecutableElement, Set<ExecutableElement>> calls = new LinkedHashMap<>();
    private final Trees trees;
    private final CompilationUnitTree unit;
    private ExecutableElement method;

    private SourceRules(Trees trees, CompilationUnitTree unit) {
        this.trees = trees;
        this.unit = unit;
    }

    static List<String> broken(String source) throws IOException {
        JavaCompiler javac = ToolProvider.getSystemJavaCompiler();
        JavaFileObject file = new SimpleJavaFileObject(URI.create("string:///FoldedBoard.java"), JavaFileObject.Kind.SOURCE) {
            @Override
            public CharSequence getCharContent(boolean ignoreErrors) {
                return source;
            }
        };
        JavacTask task = (JavacTask) javac.getTask(null, null, null, List.of("--release", "17", "-proc:none"), null, List.of(file));
        CompilationUnitTree unit = task.parse().iterator().next();
        task.analyze();
        SourceRules rules = new SourceRules(Trees.instance(task), unit);
        rules.scan(unit, null);
        rules.depths();
        return rules.found;
    }

    private void tell(int rule, String what, Tree at) {
        SourcePositions positions = trees.getSourcePositions();
        found.add("rule " + rule + ": " + what + ", line " + unit.getLineMap().getLineNumber(positions.getStartPosition(unit, at)));
    }

    private Element elementOf(Tree tree) {
        return trees.getElement(TreePath.getPath(unit, tree));
    }

    private TypeMirror typeOf(Tree tree) {
        return trees.getTypeMirror(TreePath.getPath(unit, tree));
    }

    // ---- classes (rules 1, 2)

    @Override
    public Void visitClass(ClassTree tree, Void nothing) {
        Element c = elementOf(tree);
        boolean nested = getCurrentPath().getParentPath().getLeaf() != unit;
        if (tree.getSimpleName().length() == 0 || c.getEnclosingElement().getKind() == ElementKind.METHOD) {
            tell(2, "a class in a method", tree);
        } else if (nested && !c.getModifiers().contains(Modifier.STATIC)) {
            tell(2, "an inner class that is not static", tree);
        }
        for (Tree member : tree.getMembers()) {
            if (member instanceof BlockTree b && b.isStatic()) {
                tell(5, "a static initialiser", member);
            }
        }
        return super.visitClass(tree, nothing);
    }

    @Override
    public Void visitLambdaExpression(LambdaExpressionTree tree, Void nothing) {
        tell(2, "a lambda", tree);
        return super.visitLambdaExpression(tree, nothing);
    }

    @Override
    public Void visitMemberReference(MemberReferenceTree tree, Void nothing) {
        tell(2, "a method reference", tree);
        return super.visitMemberReference(tree, nothing);
    }

    // ---- types, the library, static fields (rules 3, 4, 5)

    @Override
    public Void visitVariable(VariableTree tree, Void nothing) {
        VariableElement v = (VariableElement) elementOf(tree);
        if (!mayHold(v.asType())) {
            tell(3, "a " + v.asType(), tree);
        }
        boolean field = v.getKind() == ElementKind.FIELD && v.getModifiers().contains(Modifier.STATIC);
        if (field && !v.getModifiers().contains(Modifier.FINAL)) {
            tell(5, "static state", tree);
        } else if (field && v.getConstantValue() == null && !isWrittenOut(tree.getInitializer())) {
            tell(5, "a static field that is no constant", tree);
        }
        return super.visitVariable(tree, nothing);
    }

    private boolean mayHold(TypeMirror type) {
        if (type instanceof ArrayType row) {
            TypeMirror inner = row.getComponentType();
            return inner instanceof ArrayType second ? second.getComponentType().getKind().isPrimitive() : mayHold(inner);
        }
        return type.getKind().isPrimitive() || type.toString().equals("java.lang.String") || type.toString().startsWith("FoldedBoard");
    }

    private static boolean isWrittenOut(ExpressionTree value) {
        return value instanceof NewArrayTree row && row.getInitializers() != null && row.getDimensions().isEmpty();
    }

    @Override
    public Void visitMethodInvocation(MethodInvocationTree tree, Void nothing) {
        call((ExecutableElement) elementOf(tree), tree);
        return super.visitMethodInvocation(tree, nothing);
    }

    private void call(ExecutableElement called, Tree at) {
        TypeElement owner = (TypeElement) called.getEnclosingElement();
        if (owner.getQualifiedName().toString().startsWith("FoldedBoard")) {
            if (method != null) {
                calls.get(method).add(called);
            }
            return;
        }
        String name = owner.getSimpleName() + "." + called.getSimpleName();
        boolean number = NUMBERS.contains(owner.getSimpleName().toString()) && called.getModifiers().contains(Modifier.STATIC)
            && !name.endsWith("Exact") && called.getParameters().stream().allMatch(p -> isWhole(p.asType()));
        if (!LIBRARY.contains(name) && !number) {
            tell(4, "the library's " + name, at);
        }
    }

    private static boolean isWhole(TypeMirror type) {
        return type.getKind() == TypeKind.INT || type.getKind() == TypeKind.LONG;
    }

    // ---- what is made: with the object alone, as this class needs no more (rule 12)

    @Override
    public Void visitNewClass(NewClassTree tree, Void nothing) {
        ExecutableElement made = (ExecutableElement) elementOf(tree);
        call(made, tree);
        madeHere(tree);
        return super.visitNewClass(tree, nothing);
    }

    @Override
    public Void visitNewArray(NewArrayTree tree, Void nothing) {
        madeHere(tree);
        return super.visitNewArray(tree, nothing);
    }

    private void madeHere(Tree tree) {
        if (method != null && method.getKind() != ElementKind.CONSTRUCTOR) {
            tell(12, "a call makes something", tree);
        }
    }

    // ---- what throws or hides it, divisors, casts (rules 6, 7)

    @Override
    public Void visitThrow(ThrowTree tree, Void nothing) {
        tell(6, "throw", tree);
        return super.visitThrow(tree, nothing);
    }

    @Override
    public Void visitTry(TryTree tree, Void nothing) {
        tell(6, "try", tree);
        return super.visitTry(tree, nothing);
    }

    @Override
    public Void visitSynchronized(SynchronizedTree tree, Void nothing) {
        tell(6, "synchronized", tree);
        return super.visitSynchronized(tree, nothing);
    }

    @Override
    public Void visitAssert(AssertTree tree, Void nothing) {
        tell(6, "assert", tree);
        return super.visitAssert(tree, nothing);
    }

    @Override
    public Void visitTypeCast(TypeCastTree tree, Void nothing) {
        if (!typeOf(tree).getKind().isPrimitive()) {
            tell(6, "a cast of an object", tree);
        }
        return super.visitTypeCast(tree, nothing);
    }

    @Override
    public Void visitBinary(BinaryTree tree, Void nothing) {
        Tree.Kind kind = tree.getKind();
        if (kind == Tree.Kind.DIVIDE || kind == Tree.Kind.REMAINDER) {
            divisor(tree.getRightOperand());
        }
        boolean equal = kind == Tree.Kind.EQUAL_TO || kind == Tree.Kind.NOT_EQUAL_TO;
        if (equal && isText(tree.getLeftOperand()) && isText(tree.getRightOperand())) {
            tell(6, "two texts by ==", tree);
        }
        if (kind == Tree.Kind.PLUS && (isText(tree.getLeftOperand()) || isText(tree.getRightOperand()))) {
            tell(10, "texts joined by +", tree);
        }
        return super.visitBinary(tree, nothing);
    }

    private boolean isText(Tree tree) {
        return typeOf(tree).toString().equals("java.lang.String");
    }

    /** A constant that is not 0, or a value that a condition around it holds above 0. */
    private void divisor(ExpressionTree value) {
        Element named = elementOf(value);
        Object constant = value instanceof LiteralTree l ? l.getValue()
            : named instanceof VariableElement v ? v.getConstantValue() : null;
        if (constant instanceof Number n && n.longValue() != 0) {
            return;
        }
        String guard = value + " > 0";
        Tree below = value;
        for (TreePath p = getCurrentPath(); p != null; below = p.getLeaf(), p = p.getParentPath()) {
            Tree at = p.getLeaf();
            boolean behindAnd = at.getKind() == Tree.Kind.CONDITIONAL_AND && holds(((BinaryTree) at).getLeftOperand(), guard)
                && ((BinaryTree) at).getRightOperand() == below;
            boolean behindIf = at instanceof IfTree i && i.getThenStatement() == below && holds(i.getCondition(), guard);
            if (behindAnd || behindIf) {
                return;
            }
        }
        tell(7, "a divisor that is not looked at, " + value, value);
    }

    private static boolean holds(ExpressionTree condition, String guard) {
        if (condition instanceof ParenthesizedTree p) {
            return holds(p.getExpression(), guard);
        }
        if (condition.getKind() == Tree.Kind.CONDITIONAL_AND) {
            BinaryTree both = (BinaryTree) condition;
            return holds(both.getLeftOperand(), guard) || holds(both.getRightOperand(), guard);
        }
        return condition.toString().equals(guard);
    }

    // ---- loops (rule 9)

    @Override
    public Void visitWhileLoop(WhileLoopTree tree, Void nothing) {
        loop(tree.getCondition(), tree);
        return super.visitWhileLoop(tree, nothing);
    }

    @Override
    public Void visitDoWhileLoop(DoWhileLoopTree tree, Void nothing) {
        loop(tree.getCondition(), tree);
        return super.visitDoWhileLoop(tree, nothing);
    }

    @Override
    public Void visitForLoop(ForLoopTree tree, Void nothing) {
        loop(tree.getCondition(), tree);
        return super.visitForLoop(tree, nothing);
    }

    private void loop(ExpressionTree condition, Tree at) {
        if (condition == null || !condition.toString().matches("(?s).*(<|>).*")) {
            tell(9, "a loop without a bound in its head", at);
        }
    }

    // ---- constant arrays are never changed (rule 5)

    @Override
    public Void visitAssignment(AssignmentTree tree, Void nothing) {
        changed(tree.getVariable());
        return super.visitAssignment(tree, nothing);
    }

    @Override
    public Void visitCompoundAssignment(CompoundAssignmentTree tree, Void nothing) {
        changed(tree.getVariable());
        return super.visitCompoundAssignment(tree, nothing);
    }

    @Override
    public Void visitUnary(UnaryTree tree, Void nothing) {
        if (tree.getKind().name().endsWith("CREMENT")) {
            changed(tree.getExpression());
        }
        return super.visitUnary(tree, nothing);
    }

    private void changed(ExpressionTree target) {
        if (target instanceof ArrayAccessTree a) {
            Element row = elementOf(a.getExpression());
            if (row != null && row.getModifiers().contains(Modifier.STATIC)) {
                tell(5, "a constant row is changed", target);
            }
        }
    }

    // ---- methods (rules 8, 11)

    @Override
    public Void visitMethod(MethodTree tree, Void nothing) {
        method = (ExecutableElement) elementOf(tree);
        calls.put(method, new LinkedHashSet<>());
        if (tree.getParameters().size() > MOST_PARAMETERS) {
            tell(11, "more than seven parameters", tree);
        }
        SourcePositions positions = trees.getSourcePositions();
        long first = unit.getLineMap().getLineNumber(positions.getStartPosition(unit, tree));
        long last = unit.getLineMap().getLineNumber(Math.max(0, positions.getEndPosition(unit, tree)));
        if (last - first >= MOST_LINES) {
            tell(11, "a method of " + (last - first + 1) + " lines", tree);
        }
        super.visitMethod(tree, nothing);
        method = null;
        return null;
    }

    /** Methods that call one another count as one step for each of them: a level goes through all of them once. */
    private void depths() {
        for (ExecutableElement m : calls.keySet()) {
            if (reaches(m, m) && !m.getModifiers().contains(Modifier.PRIVATE)) {
                found.add("rule 8: " + m + " calls itself and is not private");
            }
            List<ExecutableElement> deepest = deepest(m, new LinkedHashMap<>());
            if (m.getModifiers().contains(Modifier.PUBLIC) && deepest.size() > MOST_DEEP) {
                found.add("rule 11: calls go " + deepest.size() + " deep: " + deepest);
            }
        }
    }

    private List<ExecutableElement> deepest(ExecutableElement m, Map<ExecutableElement, List<ExecutableElement>> known) {
        if (known.containsKey(m)) {
            return known.get(m);
        }
        Set<ExecutableElement> group = new LinkedHashSet<>(List.of(m));
        for (ExecutableElement other : calls.keySet()) {
            if (reaches(m, other) && reaches(other, m)) {
                group.add(other);
            }
        }
        List<ExecutableElement> most = Collections.emptyList();
        for (ExecutableElement inside : group) {
            for (ExecutableElement next : calls.get(inside)) {
                List<ExecutableElement> behind = group.contains(next) || !calls.containsKey(next) ? most : deepest(next, known);
                most = behind.size() > most.size() ? behind : most;
            }
        }
        List<ExecutableElement> whole = new ArrayList<>(group);
        whole.addAll(most);
        known.put(m, whole);
        return whole;
    }

    private boolean reaches(ExecutableElement from, ExecutableElement to) {
        Set<ExecutableElement> seen = new LinkedHashSet<>(calls.getOrDefault(from, Set.of()));
        List<ExecutableElement> open = new ArrayList<>(seen);
        while (!open.isEmpty()) {
            for (ExecutableElement next : calls.getOrDefault(open.remove(open.size() - 1), Set.of())) {
                if (seen.add(next)) {
                    open.add(next);
                }
            }
        }
        return seen.contains(to);
    }
}
