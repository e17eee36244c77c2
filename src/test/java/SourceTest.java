import com.sun.source.tree.ArrayAccessTree;
import com.sun.source.tree.AssignmentTree;
import com.sun.source.tree.BinaryTree;
import com.sun.source.tree.BlockTree;
import com.sun.source.tree.CatchTree;
import com.sun.source.tree.ClassTree;
import com.sun.source.tree.CompilationUnitTree;
import com.sun.source.tree.CompoundAssignmentTree;
import com.sun.source.tree.ConditionalExpressionTree;
import com.sun.source.tree.DoWhileLoopTree;
import com.sun.source.tree.EnhancedForLoopTree;
import com.sun.source.tree.ExpressionTree;
import com.sun.source.tree.ForLoopTree;
import com.sun.source.tree.IfTree;
import com.sun.source.tree.InstanceOfTree;
import com.sun.source.tree.LambdaExpressionTree;
import com.sun.source.tree.LiteralTree;
import com.sun.source.tree.MemberReferenceTree;
import com.sun.source.tree.MemberSelectTree;
import com.sun.source.tree.MethodInvocationTree;
import com.sun.source.tree.MethodTree;
import com.sun.source.tree.NewArrayTree;
import com.sun.source.tree.NewClassTree;
import com.sun.source.tree.ParenthesizedTree;
import com.sun.source.tree.ReturnTree;
import com.sun.source.tree.StatementTree;
import com.sun.source.tree.SynchronizedTree;
import com.sun.source.tree.ThrowTree;
import com.sun.source.tree.Tree;
import com.sun.source.tree.TryTree;
import com.sun.source.tree.TypeCastTree;
import com.sun.source.tree.UnaryTree;
import com.sun.source.tree.VariableTree;
import com.sun.source.tree.WhileLoopTree;
import com.sun.source.util.JavacTask;
import com.sun.source.util.SourcePositions;
import com.sun.source.util.TreePath;
import com.sun.source.util.TreePathScanner;
import com.sun.source.util.TreeScanner;
import com.sun.source.util.Trees;
import java.nio.file.Path;
import java.util.ArrayList;
import java.util.HashSet;
import java.util.LinkedHashMap;
import java.util.LinkedHashSet;
import java.util.List;
import java.util.Map;
import java.util.Set;
import javax.lang.model.element.Element;
import javax.lang.model.element.ElementKind;
import javax.lang.model.element.ExecutableElement;
import javax.lang.model.element.Modifier;
import javax.lang.model.element.TypeElement;
import javax.lang.model.element.VariableElement;
import javax.lang.model.type.TypeKind;
import javax.lang.model.type.TypeMirror;
import javax.tools.JavaCompiler;
import javax.tools.StandardJavaFileManager;
import javax.tools.ToolProvider;

/**
 * The rules of the language that no call can show, read from the source through the compiler's own trees:
 * what is looked at before it is used, how loops end, how deep calls go, what is made, what is called.
 *
 * What is looked at is seen line by line and without following any values: an index, a divisor or a reference
 * counts as looked at, if the very method compares it on the way to its use, so that it need not be
 * known what all other methods keep to. The source is held to this plainer way, which is more than the rules ask.
 */
public final class SourceTest {
    private static final String SOURCE = "src/main/java/Turnwright.java";
    private static final int DEEPEST_CALL = 8;
    private static final int LONGEST_METHOD = 60;
    private static final Set<String> LIBRARY = Set.of(
            "java.lang.String.length()", "java.lang.String.charAt(int)",
            "java.lang.StringBuilder.append(char)", "java.lang.StringBuilder.append(int)",
            "java.lang.StringBuilder.append(java.lang.String)", "java.lang.StringBuilder.toString()",
            "java.lang.Math.abs(int)", "java.lang.Math.min(int,int)", "java.lang.Math.max(int,int)",
            "java.util.Arrays.fill(int[],int)");
    private static final Set<String> TYPES = Set.of("int", "long", "short", "byte", "char", "boolean", "double",
            "float", "void", "int[]", "int[][]", "long[]", "boolean[]", "java.lang.String", "java.lang.StringBuilder");

    private static final Map<Tree.Kind, Tree.Kind> OPPOSITES = Map.of(
            Tree.Kind.EQUAL_TO, Tree.Kind.NOT_EQUAL_TO, Tree.Kind.NOT_EQUAL_TO, Tree.Kind.EQUAL_TO,
            Tree.Kind.LESS_THAN, Tree.Kind.GREATER_THAN_EQUAL, Tree.Kind.GREATER_THAN_EQUAL, Tree.Kind.LESS_THAN,
            Tree.Kind.GREATER_THAN, Tree.Kind.LESS_THAN_EQUAL, Tree.Kind.LESS_THAN_EQUAL, Tree.Kind.GREATER_THAN);

    /** By method whom it calls, in the order of the source. */
    private final Map<Element, Set<Element>> calls = new LinkedHashMap<>();
    private final Map<Element, Integer> depths = new LinkedHashMap<>();
    private final Set<String> ownClasses = new HashSet<>();
    private CompilationUnitTree unit;
    private Trees trees;
    private SourcePositions positions;

    private SourceTest() {
    }

    public static void main(String[] args) throws Exception {
        new SourceTest().read();
        Check.end("SourceTest");
    }

    private void read() throws Exception {
        JavaCompiler compiler = ToolProvider.getSystemJavaCompiler();
        try (StandardJavaFileManager files = compiler.getStandardFileManager(null, null, null)) {
            JavacTask task = (JavacTask) compiler.getTask(null, files, null, List.of("-proc:none"), null,
                    files.getJavaFileObjects(Path.of(SOURCE)));
            unit = task.parse().iterator().next();
            task.analyze();
            trees = Trees.instance(task);
            positions = trees.getSourcePositions();
            new ClassNames().scan(unit, null);
            new Statements().scan(unit, null);
            new Looked().scan(unit, null);
            new Made().scan(unit, null);
            new Calls().scan(unit, null);
            depth();
        }
    }

    private String where(Tree tree) {
        long line = unit.getLineMap().getLineNumber(positions.getStartPosition(unit, tree));
        return "line " + line + ": " + tree.toString().lines().findFirst().orElse("").strip();
    }

    private void due(String rule, Tree tree, boolean holds) {
        Check.due(rule + ", " + where(tree), holds, true);
    }

    private Element elementOf(TreePath path) {
        return trees.getElement(path);
    }

    private static MethodTree methodRound(TreePath path) {
        for (TreePath at = path; at != null; at = at.getParentPath()) {
            if (at.getLeaf() instanceof MethodTree method) {
                return method;
            }
        }
        return null;
    }

    private static boolean isThrown(TreePath path) {
        return path.getParentPath().getLeaf() instanceof ThrowTree;
    }

    private class ClassNames extends TreePathScanner<Void, Void> {
        @Override
        public Void visitClass(ClassTree tree, Void none) {
            ownClasses.add(((TypeElement) elementOf(getCurrentPath())).getQualifiedName().toString());
            return super.visitClass(tree, none);
        }
    }

    /** Rules 2, 3, 5, 6, 10, 11: which statements and types there are, and how long methods are. */
    private class Statements extends TreePathScanner<Void, Void> {
        @Override
        public Void visitLambdaExpression(LambdaExpressionTree tree, Void none) {
            due("no lambda", tree, false);
            return null;
        }

        @Override
        public Void visitMemberReference(MemberReferenceTree tree, Void none) {
            due("no method reference", tree, false);
            return null;
        }

        @Override
        public Void visitSynchronized(SynchronizedTree tree, Void none) {
            due("no synchronized", tree, false);
            return null;
        }

        @Override
        public Void visitTry(TryTree tree, Void none) {
            due("no finally", tree, tree.getFinallyBlock() == null);
            due("no resources", tree, tree.getResources().isEmpty());
            return super.visitTry(tree, none);
        }

        @Override
        public Void visitCatch(CatchTree tree, Void none) {
            due("nothing is caught: nothing here throws but to the caller", tree, false);
            return super.visitCatch(tree, none);
        }

        @Override
        public Void visitThrow(ThrowTree tree, Void none) {
            MethodTree method = methodRound(getCurrentPath());
            boolean isNew = tree.getExpression() instanceof NewClassTree made && made.getArguments().stream()
                    .allMatch(text -> text instanceof LiteralTree);
            due("a new exception with a written text", tree, isNew);
            due("not in a constructor", tree, method != null && method.getReturnType() != null);
            return super.visitThrow(tree, none);
        }

        @Override
        public Void visitVariable(VariableTree tree, Void none) {
            Element element = elementOf(getCurrentPath());
            due("a type that is listed", tree, isListed(element.asType()));
            boolean isStatic = element.getModifiers().contains(Modifier.STATIC);
            if (element.getKind() == ElementKind.FIELD && isStatic) {
                due("a constant", tree, ((VariableElement) element).getConstantValue() != null);
            }
            return super.visitVariable(tree, none);
        }

        private boolean isListed(TypeMirror type) {
            String name = type.toString();
            String bare = name.endsWith("[]") ? name.substring(0, name.length() - 2) : name;
            return TYPES.contains(name) || ownClasses.contains(bare);
        }

        @Override
        public Void visitBinary(BinaryTree tree, Void none) {
            boolean isText = trees.getTypeMirror(getCurrentPath()).toString().equals("java.lang.String");
            due("texts are joined by StringBuilder", tree, !isText);
            if (tree.getKind() == Tree.Kind.EQUAL_TO || tree.getKind() == Tree.Kind.NOT_EQUAL_TO) {
                String left = trees.getTypeMirror(new TreePath(getCurrentPath(), tree.getLeftOperand())).toString();
                due("no == of texts", tree, !left.equals("java.lang.String") && !left.equals("java.lang.Integer"));
            }
            return super.visitBinary(tree, none);
        }

        @Override
        public Void visitMethod(MethodTree tree, Void none) {
            long first = unit.getLineMap().getLineNumber(Math.max(0, positions.getStartPosition(unit, tree)));
            long last = unit.getLineMap().getLineNumber(Math.max(1, positions.getEndPosition(unit, tree)));
            due("a short method", tree, last - first < LONGEST_METHOD);
            due("at most seven parameters", tree, tree.getParameters().size() <= 7);
            return super.visitMethod(tree, none);
        }

        @Override
        public Void visitBlock(BlockTree tree, Void none) {
            boolean isOfClass = getCurrentPath().getParentPath().getLeaf() instanceof ClassTree;
            due("no initialiser block", tree, !isOfClass);
            return super.visitBlock(tree, none);
        }

        @Override
        public Void visitInstanceOf(InstanceOfTree tree, Void none) {
            due("nothing is asked for its class", tree, false);
            return super.visitInstanceOf(tree, none);
        }
    }

    /** Rules 7 and 9: what is looked at before it is used, and how loops end. */
    private class Looked extends TreePathScanner<Void, Void> {
        @Override
        public Void visitArrayAccess(ArrayAccessTree tree, Void none) {
            dueInside(tree, tree.getIndex().toString(), tree.getExpression() + ".length");
            return super.visitArrayAccess(tree, none);
        }

        @Override
        public Void visitMethodInvocation(MethodInvocationTree tree, Void none) {
            if (tree.getMethodSelect() instanceof MemberSelectTree select
                    && select.getIdentifier().contentEquals("charAt")) {
                dueInside(tree, tree.getArguments().get(0).toString(), select.getExpression() + ".length()");
            }
            return super.visitMethodInvocation(tree, none);
        }

        private void dueInside(Tree tree, String index, String length) {
            Set<Known> known = known(getCurrentPath());
            due("the index is not below 0", tree, known.contains(new Known(index, Tree.Kind.GREATER_THAN_EQUAL, "0")));
            due("the index is below the length", tree, known.contains(new Known(index, Tree.Kind.LESS_THAN, length)));
        }

        @Override
        public Void visitBinary(BinaryTree tree, Void none) {
            if (tree.getKind() == Tree.Kind.DIVIDE || tree.getKind() == Tree.Kind.REMAINDER) {
                ExpressionTree divisor = bare(tree.getRightOperand());
                boolean isNumber = divisor instanceof LiteralTree number && !number.getValue().equals(0);
                due("the divisor is not 0", tree, isNumber || known(getCurrentPath())
                        .contains(new Known(divisor.toString(), Tree.Kind.NOT_EQUAL_TO, "0")));
            }
            return super.visitBinary(tree, none);
        }

        @Override
        public Void visitCompoundAssignment(CompoundAssignmentTree tree, Void none) {
            boolean isDivision = tree.getKind() == Tree.Kind.DIVIDE_ASSIGNMENT
                    || tree.getKind() == Tree.Kind.REMAINDER_ASSIGNMENT;
            due("no division in passing", tree, !isDivision);
            return super.visitCompoundAssignment(tree, none);
        }

        @Override
        public Void visitTypeCast(TypeCastTree tree, Void none) {
            TypeMirror type = trees.getTypeMirror(new TreePath(getCurrentPath(), tree.getType()));
            due("only numbers are cast", tree, type.getKind().isPrimitive());
            return super.visitTypeCast(tree, none);
        }

        /** A reference that comes out of a row of objects may be null, as far as its line shows. */
        @Override
        public Void visitVariable(VariableTree tree, Void none) {
            if (tree.getInitializer() != null && isFromRow(tree.getInitializer())) {
                String name = tree.getName().toString();
                StatementTree next = nextStatement(getCurrentPath());
                boolean isLooked = next instanceof ReturnTree answer
                        && bare(answer.getExpression()) instanceof ConditionalExpressionTree choice
                        && bare(choice.getCondition()).toString().equals(name + " == null");
                due("looked at against null at once", tree, isLooked);
            }
            return super.visitVariable(tree, none);
        }

        private boolean isFromRow(ExpressionTree tree) {
            ExpressionTree value = bare(tree);
            if (value instanceof ConditionalExpressionTree choice) {
                return isFromRow(choice.getTrueExpression()) || isFromRow(choice.getFalseExpression());
            }
            return value instanceof ArrayAccessTree && !trees.getTypeMirror(
                    TreePath.getPath(unit, value)).getKind().isPrimitive();
        }

        @Override
        public Void visitMemberSelect(MemberSelectTree tree, Void none) {
            due("nothing is asked of a row's object unseen", tree, !(bare(tree.getExpression()) instanceof ArrayAccessTree access
                    && trees.getTypeMirror(TreePath.getPath(unit, access)).getKind() == TypeKind.DECLARED));
            return super.visitMemberSelect(tree, none);
        }

        @Override
        public Void visitForLoop(ForLoopTree tree, Void none) {
            boolean isCounter = tree.getInitializer().size() == 1 && tree.getInitializer().get(0) instanceof VariableTree;
            due("one counter of its own", tree, isCounter && tree.getUpdate().size() == 1);
            if (isCounter) {
                String counter = ((VariableTree) tree.getInitializer().get(0)).getName().toString();
                String update = tree.getUpdate().get(0).toString().replace(";", "");
                ExpressionTree bound = boundOf(tree.getCondition(), counter, update.equals(counter + "++"));
                due("counts by one", tree, Set.of(counter + "++", counter + "--").contains(update));
                due("the counter against a bound", tree, bound != null);
                due("the counter is left alone", tree, !isChanged(tree.getStatement(), counter));
                due("the bound is left alone", tree, bound == null || !isChanged(tree.getStatement(), bound.toString()));
                due("a bound that its lines show", tree, bound == null || isPlainBound(bound));
            }
            return super.visitForLoop(tree, none);
        }

        /** A number, a constant, a local variable or the length of a row: nothing that a call could change. */
        private boolean isPlainBound(ExpressionTree bound) {
            ExpressionTree plain = bare(bound);
            if (plain instanceof LiteralTree || plain.toString().endsWith(".length")) {
                return true;
            }
            if (plain instanceof BinaryTree sum) {
                return isPlainBound(sum.getLeftOperand()) && isPlainBound(sum.getRightOperand());
            }
            Element element = trees.getElement(TreePath.getPath(unit, plain));
            return element instanceof VariableElement variable && (variable.getConstantValue() != null
                    || variable.getKind() == ElementKind.LOCAL_VARIABLE || variable.getKind() == ElementKind.PARAMETER);
        }

        @Override
        public Void visitWhileLoop(WhileLoopTree tree, Void none) {
            due("each loop counts by for", tree, false);
            return super.visitWhileLoop(tree, none);
        }

        @Override
        public Void visitDoWhileLoop(DoWhileLoopTree tree, Void none) {
            due("each loop counts by for", tree, false);
            return super.visitDoWhileLoop(tree, none);
        }

        @Override
        public Void visitEnhancedForLoop(EnhancedForLoopTree tree, Void none) {
            TypeMirror type = trees.getTypeMirror(new TreePath(getCurrentPath(), tree.getExpression()));
            due("only rows are gone through without an index", tree, type.getKind() == TypeKind.ARRAY);
            return super.visitEnhancedForLoop(tree, none);
        }
    }

    /** The bound of the counter among all that must hold for the loop to go on; null without one. */
    private static ExpressionTree boundOf(ExpressionTree condition, String counter, boolean isUp) {
        for (ExpressionTree test : parts(condition, Tree.Kind.CONDITIONAL_AND)) {
            if (test instanceof BinaryTree compared && compared.getLeftOperand().toString().equals(counter)) {
                Tree.Kind kind = compared.getKind();
                boolean isBound = isUp ? kind == Tree.Kind.LESS_THAN || kind == Tree.Kind.LESS_THAN_EQUAL
                        : kind == Tree.Kind.GREATER_THAN || kind == Tree.Kind.GREATER_THAN_EQUAL;
                if (isBound) {
                    return compared.getRightOperand();
                }
            }
        }
        return null;
    }

    private static boolean isChanged(Tree within, String name) {
        boolean[] is = {false};
        new Changes(name, is).scan(within, null);
        return is[0];
    }

    private static final class Changes extends TreeScanner<Void, Void> {
        private final String name;
        private final boolean[] is;

        Changes(String name, boolean[] is) {
            this.name = name;
            this.is = is;
        }

        @Override
        public Void visitAssignment(AssignmentTree tree, Void none) {
            is[0] |= tree.getVariable().toString().equals(name);
            return super.visitAssignment(tree, none);
        }

        @Override
        public Void visitCompoundAssignment(CompoundAssignmentTree tree, Void none) {
            is[0] |= tree.getVariable().toString().equals(name);
            return super.visitCompoundAssignment(tree, none);
        }

        @Override
        public Void visitUnary(UnaryTree tree, Void none) {
            boolean isStep = Set.of(Tree.Kind.PREFIX_INCREMENT, Tree.Kind.PREFIX_DECREMENT,
                    Tree.Kind.POSTFIX_INCREMENT, Tree.Kind.POSTFIX_DECREMENT).contains(tree.getKind());
            is[0] |= isStep && tree.getExpression().toString().equals(name);
            return super.visitUnary(tree, none);
        }
    }

    private static ExpressionTree bare(ExpressionTree tree) {
        ExpressionTree at = tree;
        while (true) {
            if (at instanceof ParenthesizedTree round) {
                at = round.getExpression();
            } else if (at instanceof TypeCastTree cast) {
                at = cast.getExpression();
            } else {
                return at;
            }
        }
    }

    private static List<ExpressionTree> parts(ExpressionTree tree, Tree.Kind kind) {
        List<ExpressionTree> all = new ArrayList<>();
        ExpressionTree at = tree == null ? null : bare(tree);
        if (at instanceof BinaryTree both && both.getKind() == kind) {
            all.addAll(parts(both.getLeftOperand(), kind));
            all.addAll(parts(both.getRightOperand(), kind));
        } else if (at != null) {
            all.add(at);
        }
        return all;
    }

    /** A comparison that holds, as it is written. */
    private record Known(String left, Tree.Kind kind, String right) {
    }

    /**
     * The comparisons that hold at a place, by the lines round it: what stands ahead of it behind &&, the conditions
     * of the ifs, choices and loops in which it lies, and the start of a counter that only goes up.
     */
    private static Set<Known> known(TreePath path) {
        Set<Known> all = new HashSet<>();
        TreePath at = path;
        while (at.getParentPath() != null && !(at.getLeaf() instanceof MethodTree)) {
            Tree part = at.getLeaf();
            Tree whole = at.getParentPath().getLeaf();
            if (whole instanceof BinaryTree both && part == both.getRightOperand()) {
                addIf(all, both.getKind() == Tree.Kind.CONDITIONAL_AND, both.getLeftOperand());
                addElse(all, both.getKind() == Tree.Kind.CONDITIONAL_OR, both.getLeftOperand());
            } else if (whole instanceof ConditionalExpressionTree choice) {
                addIf(all, part == choice.getTrueExpression(), choice.getCondition());
                addElse(all, part == choice.getFalseExpression(), choice.getCondition());
            } else if (whole instanceof IfTree test) {
                addIf(all, part == test.getThenStatement(), test.getCondition());
                addElse(all, part == test.getElseStatement(), test.getCondition());
            } else if (whole instanceof ForLoopTree loop && part == loop.getStatement()) {
                addIf(all, true, loop.getCondition());
                addStart(all, loop);
            }
            at = at.getParentPath();
        }
        return all;
    }

    private static void addIf(Set<Known> all, boolean isSo, ExpressionTree condition) {
        for (ExpressionTree test : parts(condition, Tree.Kind.CONDITIONAL_AND)) {
            if (isSo && test instanceof BinaryTree compared) {
                all.add(new Known(compared.getLeftOperand().toString(), compared.getKind(), compared.getRightOperand().toString()));
            }
        }
    }

    private static void addElse(Set<Known> all, boolean isSo, ExpressionTree condition) {
        for (ExpressionTree test : parts(condition, Tree.Kind.CONDITIONAL_OR)) {
            if (isSo && test instanceof BinaryTree compared && OPPOSITES.containsKey(compared.getKind())) {
                all.add(new Known(compared.getLeftOperand().toString(), OPPOSITES.get(compared.getKind()),
                        compared.getRightOperand().toString()));
            }
        }
    }

    private static void addStart(Set<Known> all, ForLoopTree loop) {
        if (loop.getInitializer().size() == 1 && loop.getInitializer().get(0) instanceof VariableTree counter
                && counter.getInitializer() instanceof LiteralTree start && start.getValue() instanceof Integer number
                && number >= 0 && loop.getUpdate().get(0).toString().contains("++")) {
            all.add(new Known(counter.getName().toString(), Tree.Kind.GREATER_THAN_EQUAL, "0"));
        }
    }

    private static StatementTree nextStatement(TreePath path) {
        if (path.getParentPath().getLeaf() instanceof BlockTree block) {
            int place = block.getStatements().indexOf(path.getLeaf());
            return place >= 0 && place + 1 < block.getStatements().size() ? block.getStatements().get(place + 1) : null;
        }
        return null;
    }

    /** Rule 12: what is made, and where: by constructors and beside fields; a text by row alone. */
    private class Made extends TreePathScanner<Void, Void> {
        @Override
        public Void visitNewClass(NewClassTree tree, Void none) {
            MethodTree method = methodRound(getCurrentPath());
            boolean isByRow = method != null && method.getName().contentEquals("row")
                    && tree.getIdentifier().toString().equals("StringBuilder");
            due("made once", tree, method == null || method.getReturnType() == null || isByRow || isThrown(getCurrentPath()));
            return super.visitNewClass(tree, none);
        }

        @Override
        public Void visitNewArray(NewArrayTree tree, Void none) {
            due("made once", tree, methodRound(getCurrentPath()) == null || methodRound(getCurrentPath()).getReturnType() == null);
            for (ExpressionTree length : tree.getDimensions()) {
                due("of a length that is known", tree, isKnown(length));
            }
            return super.visitNewArray(tree, none);
        }

        private boolean isKnown(ExpressionTree length) {
            ExpressionTree plain = bare(length);
            if (plain instanceof BinaryTree sum) {
                return sum.getKind() == Tree.Kind.PLUS && isKnown(sum.getLeftOperand()) && isKnown(sum.getRightOperand());
            }
            Object value = plain instanceof LiteralTree number ? number.getValue()
                    : elementOf(TreePath.getPath(unit, plain)) instanceof VariableElement constant ? constant.getConstantValue() : null;
            return value instanceof Integer number && number >= 0;
        }
    }

    /** Rules 4 and 11: whom each method calls. */
    private class Calls extends TreePathScanner<Void, Void> {
        @Override
        public Void visitMethod(MethodTree tree, Void none) {
            calls.put(elementOf(getCurrentPath()), new LinkedHashSet<>());
            return super.visitMethod(tree, none);
        }

        @Override
        public Void visitMethodInvocation(MethodInvocationTree tree, Void none) {
            ExecutableElement called = (ExecutableElement) elementOf(new TreePath(getCurrentPath(), tree.getMethodSelect()));
            String owner = ((TypeElement) called.getEnclosingElement()).getQualifiedName().toString();
            boolean isImplied = called.getKind() == ElementKind.CONSTRUCTOR;
            due("a call that is listed", tree, isImplied || ownClasses.contains(owner) || LIBRARY.contains(owner + "." + called));
            note(called);
            return super.visitMethodInvocation(tree, none);
        }

        @Override
        public Void visitNewClass(NewClassTree tree, Void none) {
            note(elementOf(getCurrentPath()));
            return super.visitNewClass(tree, none);
        }

        private void note(Element called) {
            MethodTree method = methodRound(getCurrentPath());
            if (method != null) {
                calls.get(elementOf(trees.getPath(unit, method))).add(called);
            }
        }
    }

    /** Each call that stands open counts, the first one and the library's too. */
    private void depth() {
        int deepest = 0;
        for (Element method : calls.keySet()) {
            int deep = depthOf(method, new LinkedHashSet<>());
            deepest = Math.max(deepest, deep);
            Check.due("at most eight calls deep (" + deep + "): " + method, deep <= DEEPEST_CALL, true);
        }
        Check.due("calls are found", deepest > 3, true);
    }

    private int depthOf(Element method, Set<Element> open) {
        Check.due("no recursion: " + method, open.contains(method), false);
        if (open.contains(method)) {
            return DEEPEST_CALL + 1;
        }
        Integer known = depths.get(method);
        if (known != null) {
            return known;
        }
        open.add(method);
        int deepest = 0;
        for (Element called : calls.getOrDefault(method, Set.of())) {
            deepest = Math.max(deepest, depthOf(called, open));
        }
        open.remove(method);
        depths.put(method, deepest + 1);
        return deepest + 1;
    }
}
