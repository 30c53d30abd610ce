import com.sun.source.tree.ArrayAccessTree;
import com.sun.source.tree.AssertTree;
import com.sun.source.tree.AssignmentTree;
import com.sun.source.tree.BinaryTree;
import com.sun.source.tree.BlockTree;
import com.sun.source.tree.CatchTree;
import com.sun.source.tree.ClassTree;
import com.sun.source.tree.CompilationUnitTree;
import com.sun.source.tree.CompoundAssignmentTree;
import com.sun.source.tree.DoWhileLoopTree;
import com.sun.source.tree.EnhancedForLoopTree;
import com.sun.source.tree.ExpressionStatementTree;
import com.sun.source.tree.ExpressionTree;
import com.sun.source.tree.ForLoopTree;
import com.sun.source.tree.ImportTree;
import com.sun.source.tree.LambdaExpressionTree;
import com.sun.source.tree.LiteralTree;
import com.sun.source.tree.MemberReferenceTree;
import com.sun.source.tree.MethodInvocationTree;
import com.sun.source.tree.MethodTree;
import com.sun.source.tree.NewArrayTree;
import com.sun.source.tree.NewClassTree;
import com.sun.source.tree.ParenthesizedTree;
import com.sun.source.tree.SwitchExpressionTree;
import com.sun.source.tree.SynchronizedTree;
import com.sun.source.tree.ThrowTree;
import com.sun.source.tree.Tree;
import com.sun.source.tree.TryTree;
import com.sun.source.tree.TypeCastTree;
import com.sun.source.tree.UnaryTree;
import com.sun.source.tree.VariableTree;
import com.sun.source.tree.WhileLoopTree;
import com.sun.source.util.JavacTask;
import com.sun.source.util.TreePath;
import com.sun.source.util.TreePathScanner;
import com.sun.source.util.TreeScanner;
import com.sun.source.util.Trees;
import java.nio.charset.StandardCharsets;
import java.nio.file.Files;
import java.nio.file.Path;
import java.util.ArrayList;
import java.util.HashMap;
import java.util.HashSet;
import java.util.List;
import java.util.Map;
import java.util.Set;
import java.util.TreeMap;
import java.util.TreeSet;
import javax.lang.model.element.Element;
import javax.lang.model.element.ElementKind;
import javax.lang.model.element.ExecutableElement;
import javax.lang.model.element.Modifier;
import javax.lang.model.type.ArrayType;
import javax.lang.model.type.TypeKind;
import javax.lang.model.type.TypeMirror;
import javax.tools.StandardJavaFileManager;
import javax.tools.ToolProvider;

/** The rules of LANGUAGE.md, looked at in the tree that the compiler makes of the program. */
public final class RulesTest {
    private static final Check CHECK = new Check();
    private static final Path PROGRAM = Path.of("src/main/java/Maskingtone.java");
    private static final Set<String> EXCEPTIONS = Set.of("IllegalStateException", "IllegalArgumentException", "IndexOutOfBoundsException",
        "ArithmeticException", "UnsupportedOperationException", "NoSuchElementException", "RuntimeException");
    private static final Set<String> IMPORTS = Set.of("java.util.NoSuchElementException", "java.util.ArrayList", "java.util.List", "java.util.Arrays",
        "java.util.Iterator");
    private static final Set<String> OF_TWO_NUMBERS = Set.of("max(int,int)", "min(int,int)", "abs(int)", "max(long,long)", "min(long,long)", "abs(long)",
        "floorDiv(int,int)", "floorMod(int,int)", "bitCount(int)", "compare(int,int)");
    private static final Set<String> NUMBERS = Set.of("int", "long", "short", "byte", "char", "boolean", "double", "float");
    private static final Set<String> NONE = Set.of();
    private static final Set<Tree.Kind> RISING = Set.of(Tree.Kind.POSTFIX_INCREMENT, Tree.Kind.PREFIX_INCREMENT, Tree.Kind.PLUS_ASSIGNMENT);
    private static final Set<Tree.Kind> FALLING = Set.of(Tree.Kind.POSTFIX_DECREMENT, Tree.Kind.PREFIX_DECREMENT, Tree.Kind.MINUS_ASSIGNMENT);
    /** Those that call one another, with the depth as an argument. */
    private static final Set<String> RECURSIVE = Set.of("Lifting.smoothAnew", "Lifting.detailAnew");

    private final Map<String, Set<String>> calls = new TreeMap<>();
    private final Set<String> faceNames = new HashSet<>();
    private Trees trees;
    private CompilationUnitTree unit;
    private int classes;

    public static void main(String[] args) throws Exception {
        new RulesTest().go();
        CHECK.end();
    }

    private void go() throws Exception {
        CHECK.due("signs are 1 to 127", Files.readString(PROGRAM, StandardCharsets.ISO_8859_1).chars().allMatch(sign -> sign >= 1 && sign <= 127), true);
        try (StandardJavaFileManager files = ToolProvider.getSystemJavaCompiler().getStandardFileManager(null, null, null)) {
            JavacTask task = (JavacTask) ToolProvider.getSystemJavaCompiler().getTask(null, files, null, List.of("-proc:none"), null,
                files.getJavaFileObjects(PROGRAM));
            unit = task.parse().iterator().next();
            task.analyze();
            trees = Trees.instance(task);
            CHECK.due("no package line", unit.getPackageName() == null, true);
            nameFace();
            new Walk().scan(unit, null);
        }
        CHECK.due("rule 11: some twelve classes", classes <= 12, true);
        CHECK.due("rule 8: methods that come back to themselves", comingBack(), new TreeSet<>(RECURSIVE));
        for (String method : calls.keySet()) {
            CHECK.due("rule 11: " + method + " opens eight calls at most: " + deepest(method), deepest(method).size() <= 8, true);
        }
    }

    private void nameFace() {
        ClassTree program = (ClassTree) unit.getTypeDecls().get(0);
        CHECK.due("one class", unit.getTypeDecls().size(), 1);
        for (Tree member : program.getMembers()) {
            if (member instanceof MethodTree && ((MethodTree) member).getModifiers().getFlags().contains(Modifier.PUBLIC)) {
                faceNames.add(((MethodTree) member).getName().toString());
            }
        }
    }

    // ---- who calls whom

    private Set<String> comingBack() {
        Set<String> found = new TreeSet<>();
        for (String method : calls.keySet()) {
            if (reached(method).contains(method)) {
                found.add(method);
            }
        }
        return found;
    }

    private Set<String> reached(String from) {
        Set<String> found = new HashSet<>();
        List<String> open = new ArrayList<>(calls.getOrDefault(from, NONE));
        while (!open.isEmpty()) {
            String next = open.remove(open.size() - 1);
            if (found.add(next)) {
                open.addAll(calls.getOrDefault(next, NONE));
            }
        }
        return found;
    }

    /** The longest chain of calls that are no recursion. */
    private List<String> deepest(String from) {
        List<String> longest = List.of();
        for (String next : calls.getOrDefault(from, NONE)) {
            boolean isRecursion = reached(next).contains(from);
            List<String> chain = isRecursion ? List.of() : deepest(next);
            longest = chain.size() > longest.size() ? chain : longest;
        }
        List<String> whole = new ArrayList<>(List.of(from));
        whole.addAll(longest);
        return whole;
    }

    // ---- the walk through the tree

    private final class Walk extends TreePathScanner<Void, Void> {
        private void rule(int number, Tree tree, boolean isKept) {
            long line = unit.getLineMap().getLineNumber(trees.getSourcePositions().getStartPosition(unit, tree));
            CHECK.due("rule " + number + " in line " + line + ": " + tree.toString().lines().findFirst().orElse(""), isKept, true);
        }

        private Element elementOf(Tree tree) {
            return trees.getElement(trees.getPath(unit, tree));
        }

        private TypeMirror typeOf(Tree tree) {
            return trees.getTypeMirror(trees.getPath(unit, tree));
        }

        private boolean isOwn(Element element) {
            Element outer = element;
            while (outer != null && outer.getKind() != ElementKind.PACKAGE) {
                if (outer.getSimpleName().contentEquals("Maskingtone")) {
                    return true;
                }
                outer = outer.getEnclosingElement();
            }
            return false;
        }

        private MethodTree method() {
            for (TreePath path = getCurrentPath(); path != null; path = path.getParentPath()) {
                if (path.getLeaf() instanceof MethodTree) {
                    return (MethodTree) path.getLeaf();
                }
            }
            return null;
        }

        private boolean isInConstructor() {
            return method() != null && method().getName().contentEquals("<init>");
        }

        @Override
        public Void visitImport(ImportTree tree, Void none) {
            rule(4, tree, !tree.isStatic() && IMPORTS.contains(tree.getQualifiedIdentifier().toString()));
            return super.visitImport(tree, none);
        }

        @Override
        public Void visitClass(ClassTree tree, Void none) {
            classes++;
            int fields = 0;
            Set<Modifier> flags = tree.getModifiers().getFlags();
            boolean isProgram = getCurrentPath().getParentPath().getLeaf() instanceof CompilationUnitTree;
            rule(1, tree, isProgram ? flags.equals(Set.of(Modifier.PUBLIC, Modifier.FINAL)) : flags.contains(Modifier.STATIC) && !isSeen(flags));
            for (Tree member : tree.getMembers()) {
                rule(5, tree, !(member instanceof BlockTree));
                boolean isField = member instanceof VariableTree && !((VariableTree) member).getModifiers().getFlags().contains(Modifier.STATIC);
                fields += isField ? 1 : 0;
            }
            rule(11, tree, fields <= 20);
            return super.visitClass(tree, none);
        }

        private boolean isSeen(Set<Modifier> flags) {
            return flags.contains(Modifier.PUBLIC) || flags.contains(Modifier.PROTECTED);
        }

        @Override
        public Void visitMethod(MethodTree tree, Void none) {
            Set<Modifier> flags = tree.getModifiers().getFlags();
            String name = tree.getName().toString();
            boolean isFace = elementOf(tree).getEnclosingElement().getSimpleName().contentEquals("Maskingtone") && flags.contains(Modifier.PUBLIC);
            boolean isImplied = trees.getSourcePositions().getEndPosition(unit, tree) < 0 || name.equals("<init>") && flags.isEmpty();
            rule(1, tree, isFace || isImplied || flags.contains(Modifier.PRIVATE) && !faceNames.contains(name) || name.equals("<init>"));
            rule(11, tree, tree.getParameters().size() <= 7);
            rule(11, tree, linesOf(tree) <= 60);
            calls.computeIfAbsent(nameOf(elementOf(tree)), key -> new TreeSet<>());
            return super.visitMethod(tree, none);
        }

        private long linesOf(Tree tree) {
            long from = trees.getSourcePositions().getStartPosition(unit, tree);
            long to = trees.getSourcePositions().getEndPosition(unit, tree);
            return to < 0 ? 0 : unit.getLineMap().getLineNumber(to) - unit.getLineMap().getLineNumber(from) + 1;
        }

        private String nameOf(Element method) {
            return method.getEnclosingElement().getSimpleName() + "." + method.getSimpleName();
        }

        @Override
        public Void visitVariable(VariableTree tree, Void none) {
            Element element = elementOf(tree);
            rule(3, tree, isAllowed(element.asType()));
            if (element.getKind() == ElementKind.FIELD) {
                rule(1, tree, element.getModifiers().contains(Modifier.PRIVATE));
            }
            if (element.getModifiers().contains(Modifier.STATIC)) {
                boolean isArray = element.asType().getKind() == TypeKind.ARRAY;
                rule(5, tree, element.getModifiers().contains(Modifier.FINAL) && tree.getInitializer() != null);
                rule(5, tree, isArray ? tree.getInitializer() instanceof NewArrayTree : element.asType().getKind().isPrimitive() || isText(element.asType()));
            }
            return super.visitVariable(tree, none);
        }

        private boolean isText(TypeMirror type) {
            return type.toString().equals("java.lang.String");
        }

        /** Numbers, rows of them in one or two dimensions, own classes and rows of those. */
        private boolean isAllowed(TypeMirror type) {
            if (type.getKind() != TypeKind.ARRAY) {
                return NUMBERS.contains(type.toString()) || type.toString().startsWith("Maskingtone.");
            }
            TypeMirror part = ((ArrayType) type).getComponentType();
            if (part.getKind() == TypeKind.ARRAY) {
                return NUMBERS.contains(((ArrayType) part).getComponentType().toString());
            }
            return isAllowed(part);
        }

        @Override
        public Void visitMethodInvocation(MethodInvocationTree tree, Void none) {
            ExecutableElement called = (ExecutableElement) elementOf(tree.getMethodSelect());
            if (isOwn(called)) {
                calls.computeIfAbsent(nameOf(elementOf(method())), key -> new TreeSet<>()).add(nameOf(called));
            } else {
                String owner = called.getEnclosingElement().getSimpleName().toString();
                boolean isNumber = Set.of("Math", "Integer", "Long").contains(owner) && OF_TWO_NUMBERS.contains(called.toString());
                boolean isMove = owner.equals("System") && called.getSimpleName().contentEquals("arraycopy");
                rule(4, tree, isNumber || isMove || owner.equals("Object") && called.getSimpleName().contentEquals("<init>"));
            }
            return super.visitMethodInvocation(tree, none);
        }

        @Override
        public Void visitNewClass(NewClassTree tree, Void none) {
            boolean isThrown = getCurrentPath().getParentPath().getLeaf() instanceof ThrowTree;
            rule(2, tree, tree.getClassBody() == null);
            // stronger than the rule: what a run makes is made by constructors
            rule(12, tree, isThrown || isInConstructor() || method() == null);
            rule(4, tree, isThrown || isOwn(elementOf(tree)));
            return super.visitNewClass(tree, none);
        }

        @Override
        public Void visitNewArray(NewArrayTree tree, Void none) {
            rule(12, tree, method() == null || isInConstructor());
            return super.visitNewArray(tree, none);
        }

        @Override
        public Void visitThrow(ThrowTree tree, Void none) {
            boolean isNew = tree.getExpression() instanceof NewClassTree;
            rule(6, tree, isNew && !isInConstructor());
            if (isNew) {
                NewClassTree made = (NewClassTree) tree.getExpression();
                boolean isTold = made.getArguments().isEmpty() || made.getArguments().size() == 1 && made.getArguments().get(0) instanceof LiteralTree;
                rule(6, tree, isTold && EXCEPTIONS.contains(made.getIdentifier().toString()));
            }
            return super.visitThrow(tree, none);
        }

        @Override
        public Void visitTry(TryTree tree, Void none) {
            rule(6, tree, tree.getFinallyBlock() == null && tree.getResources().isEmpty());
            return super.visitTry(tree, none);
        }

        /** Nothing is caught at all, so that nothing of the machine's can be. */
        @Override
        public Void visitCatch(CatchTree tree, Void none) {
            rule(6, tree, false);
            return super.visitCatch(tree, none);
        }

        @Override
        public Void visitLambdaExpression(LambdaExpressionTree tree, Void none) {
            rule(2, tree, false);
            return super.visitLambdaExpression(tree, none);
        }

        @Override
        public Void visitMemberReference(MemberReferenceTree tree, Void none) {
            rule(2, tree, false);
            return super.visitMemberReference(tree, none);
        }

        @Override
        public Void visitSynchronized(SynchronizedTree tree, Void none) {
            rule(6, tree, false);
            return super.visitSynchronized(tree, none);
        }

        @Override
        public Void visitAssert(AssertTree tree, Void none) {
            rule(6, tree, false);
            return super.visitAssert(tree, none);
        }

        @Override
        public Void visitSwitchExpression(SwitchExpressionTree tree, Void none) {
            rule(6, tree, false);
            return super.visitSwitchExpression(tree, none);
        }

        @Override
        public Void visitTypeCast(TypeCastTree tree, Void none) {
            rule(7, tree, typeOf(tree).getKind().isPrimitive());
            return super.visitTypeCast(tree, none);
        }

        @Override
        public Void visitAssignment(AssignmentTree tree, Void none) {
            looksAtRow(tree, tree.getVariable());
            return super.visitAssignment(tree, none);
        }

        @Override
        public Void visitCompoundAssignment(CompoundAssignmentTree tree, Void none) {
            looksAtRow(tree, tree.getVariable());
            rule(10, tree, !isText(typeOf(tree.getVariable())));
            return super.visitCompoundAssignment(tree, none);
        }

        /** A constant row is never written into. */
        private void looksAtRow(Tree tree, ExpressionTree target) {
            if (target instanceof ArrayAccessTree) {
                Element row = elementOf(((ArrayAccessTree) target).getExpression());
                rule(5, tree, row == null || !row.getModifiers().contains(Modifier.STATIC));
            }
        }

        @Override
        public Void visitBinary(BinaryTree tree, Void none) {
            rule(10, tree, !isText(typeOf(tree)));
            boolean isBroken = Set.of("double", "float").contains(typeOf(tree).toString());
            rule(3, tree, !isBroken || Set.of(Tree.Kind.PLUS, Tree.Kind.MINUS, Tree.Kind.MULTIPLY, Tree.Kind.DIVIDE).contains(tree.getKind()));
            return super.visitBinary(tree, none);
        }

        @Override
        public Void visitForLoop(ForLoopTree tree, Void none) {
            rule(9, tree, tree.getUpdate().size() == 1 && tree.getInitializer().size() == 1);
            ExpressionTree step = tree.getUpdate().get(0).getExpression();
            rule(9, tree, isBounded(tree.getCondition(), step));
            rule(9, tree, writesTo(tree.getStatement(), counterOf(step)) == 0);
            return super.visitForLoop(tree, none);
        }

        @Override
        public Void visitWhileLoop(WhileLoopTree tree, Void none) {
            boolean isEnding = false;
            for (Tree each : ((BlockTree) tree.getStatement()).getStatements()) {
                if (each instanceof ExpressionStatementTree) {
                    ExpressionTree step = ((ExpressionStatementTree) each).getExpression();
                    isEnding |= isBounded(tree.getCondition(), step) && writesTo(tree.getStatement(), counterOf(step)) == 1;
                }
            }
            rule(9, tree, isEnding);
            return super.visitWhileLoop(tree, none);
        }

        @Override
        public Void visitDoWhileLoop(DoWhileLoopTree tree, Void none) {
            rule(9, tree, false);
            return super.visitDoWhileLoop(tree, none);
        }

        @Override
        public Void visitEnhancedForLoop(EnhancedForLoopTree tree, Void none) {
            rule(9, tree, typeOf(tree.getExpression()).getKind() == TypeKind.ARRAY);
            return super.visitEnhancedForLoop(tree, none);
        }

        /** What goes on by 1, or by a step without a call; or nothing. */
        private String counterOf(ExpressionTree step) {
            if (RISING.contains(step.getKind()) || FALLING.contains(step.getKind())) {
                if (step instanceof UnaryTree) {
                    return ((UnaryTree) step).getExpression().toString();
                }
                CompoundAssignmentTree wide = (CompoundAssignmentTree) step;
                return hasCall(wide.getExpression()) ? "" : wide.getVariable().toString();
            }
            return "";
        }

        /** One of the conditions that all have to hold compares the counter with a bound that it nears and that is no call. */
        private boolean isBounded(ExpressionTree condition, ExpressionTree step) {
            if (condition instanceof ParenthesizedTree) {
                return isBounded(((ParenthesizedTree) condition).getExpression(), step);
            }
            if (!(condition instanceof BinaryTree)) {
                return false;
            }
            BinaryTree both = (BinaryTree) condition;
            if (both.getKind() == Tree.Kind.CONDITIONAL_AND) {
                return isBounded(both.getLeftOperand(), step) || isBounded(both.getRightOperand(), step);
            }
            Set<Tree.Kind> nearing = RISING.contains(step.getKind()) ? Set.of(Tree.Kind.LESS_THAN, Tree.Kind.LESS_THAN_EQUAL)
                : Set.of(Tree.Kind.GREATER_THAN, Tree.Kind.GREATER_THAN_EQUAL);
            return nearing.contains(both.getKind()) && both.getLeftOperand().toString().equals(counterOf(step)) && !hasCall(both.getRightOperand());
        }

        private boolean hasCall(Tree tree) {
            Map<Tree, Boolean> found = new HashMap<>();
            new TreeScanner<Void, Void>() {
                @Override
                public Void visitMethodInvocation(MethodInvocationTree call, Void none) {
                    found.put(call, true);
                    return null;
                }
            }.scan(tree, null);
            return !found.isEmpty();
        }

        private int writesTo(Tree tree, String counter) {
            List<Tree> found = new ArrayList<>();
            new TreeScanner<Void, Void>() {
                private void look(Tree write, ExpressionTree target) {
                    if (target.toString().equals(counter)) {
                        found.add(write);
                    }
                }

                @Override
                public Void visitUnary(UnaryTree write, Void none) {
                    if (RISING.contains(write.getKind()) || FALLING.contains(write.getKind())) {
                        look(write, write.getExpression());
                    }
                    return super.visitUnary(write, none);
                }

                @Override
                public Void visitAssignment(AssignmentTree write, Void none) {
                    look(write, write.getVariable());
                    return super.visitAssignment(write, none);
                }

                @Override
                public Void visitCompoundAssignment(CompoundAssignmentTree write, Void none) {
                    look(write, write.getVariable());
                    return super.visitCompoundAssignment(write, none);
                }
            }.scan(tree, null);
            return found.size();
        }
    }
}
