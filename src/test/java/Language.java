import com.sun.source.tree.ArrayAccessTree;
import com.sun.source.tree.AssertTree;
import com.sun.source.tree.AssignmentTree;
import com.sun.source.tree.BinaryTree;
import com.sun.source.tree.BlockTree;
import com.sun.source.tree.CatchTree;
import com.sun.source.tree.ClassTree;
import com.sun.source.tree.CompilationUnitTree;
import com.sun.source.tree.CompoundAssignmentTree;
import com.sun.source.tree.DoWhileLoopTree;
import com.sun.source.tree.ExpressionTree;
import com.sun.source.tree.ForLoopTree;
import com.sun.source.tree.IdentifierTree;
import com.sun.source.tree.LambdaExpressionTree;
import com.sun.source.tree.LiteralTree;
import com.sun.source.tree.MemberReferenceTree;
import com.sun.source.tree.MemberSelectTree;
import com.sun.source.tree.MethodInvocationTree;
import com.sun.source.tree.MethodTree;
import com.sun.source.tree.NewArrayTree;
import com.sun.source.tree.NewClassTree;
import com.sun.source.tree.SwitchExpressionTree;
import com.sun.source.tree.SwitchTree;
import com.sun.source.tree.SynchronizedTree;
import com.sun.source.tree.ThrowTree;
import com.sun.source.tree.Tree;
import com.sun.source.tree.TryTree;
import com.sun.source.tree.TypeCastTree;
import com.sun.source.tree.UnaryTree;
import com.sun.source.tree.VariableTree;
import com.sun.source.tree.WhileLoopTree;
import com.sun.source.util.JavacTask;
import com.sun.source.util.TreePath;
import com.sun.source.util.TreePathScanner;
import com.sun.source.util.Trees;
import java.io.IOException;
import java.net.URI;
import java.util.ArrayList;
import java.util.List;
import java.util.Set;
import javax.lang.model.element.Element;
import javax.lang.model.element.ElementKind;
import javax.lang.model.element.ExecutableElement;
import javax.lang.model.element.Modifier;
import javax.lang.model.element.TypeElement;
import javax.lang.model.element.VariableElement;
import javax.lang.model.type.TypeKind;
import javax.lang.model.type.TypeMirror;
import javax.tools.Diagnostic;
import javax.tools.DiagnosticCollector;
import javax.tools.JavaFileObject;
import javax.tools.SimpleJavaFileObject;
import javax.tools.ToolProvider;

/**
 * Reads a program's text and tells where it leaves ../shared/LANGUAGE.md, as far as a text can show
 * it. Some findings are narrower than the rule, since what makes the rest safe cannot be seen here:
 * casts to classes, divisors that are no constants, recursion, local classes, objects made by calls.
 */
final class Language extends TreePathScanner<Void, Void> {
    private static final Set<String> THROWN = Set.of(
            "java.lang.IllegalStateException", "java.lang.IllegalArgumentException",
            "java.lang.IndexOutOfBoundsException", "java.lang.ArithmeticException",
            "java.lang.UnsupportedOperationException", "java.util.NoSuchElementException",
            "java.lang.RuntimeException");
    private static final Set<TypeKind> CONSTANT_ELEMENTS =
            Set.of(TypeKind.INT, TypeKind.LONG, TypeKind.CHAR, TypeKind.BYTE);
    private static final int MOST_CLASSES = 12;
    private static final int MOST_FIELDS = 20;
    private static final int MOST_PARAMETERS = 7;
    private static final int MOST_LINES = 60;
    private static final int MOST_DEEP = 8;

    private final List<String> findings = new ArrayList<>();
    private final CallGraph graph = new CallGraph();
    private final Trees trees;
    private final CompilationUnitTree unit;
    private final Library library = new Library();
    private MethodTree method = null;
    private boolean throwsHere = false;
    private boolean triesHere = false;
    private int classes = 0;

    private static final class Source extends SimpleJavaFileObject {
        private final String text;

        Source(String name, String text) {
            super(URI.create("string:///" + name + ".java"), JavaFileObject.Kind.SOURCE);
            this.text = text;
        }

        @Override
        public CharSequence getCharContent(boolean ignoreEncodingErrors) {
            return text;
        }
    }

    private Language(Trees trees, CompilationUnitTree unit) {
        this.trees = trees;
        this.unit = unit;
    }

    /** Where the text leaves the rules; a text that does not compile is a fault of the test. */
    static List<String> findings(String name, String text) {
        DiagnosticCollector<JavaFileObject> told = new DiagnosticCollector<>();
        JavacTask task = (JavacTask) ToolProvider.getSystemJavaCompiler().getTask(
                null, null, told, List.of("-proc:none"), null, List.of(new Source(name, text)));
        try {
            CompilationUnitTree unit = task.parse().iterator().next();
            task.analyze();
            for (Diagnostic<?> one : told.getDiagnostics()) {
                if (one.getKind() == Diagnostic.Kind.ERROR) {
                    throw new AssertionError(name + " does not compile: " + one);
                }
            }
            Language language = new Language(Trees.instance(task), unit);
            language.scan(unit, null);
            language.lookAtCalls();
            return language.findings;
        } catch (IOException e) {
            throw new AssertionError(e);
        }
    }

    private void find(int rule, Tree at, String what) {
        long place = trees.getSourcePositions().getStartPosition(unit, at);
        long line = place < 0 ? 0 : unit.getLineMap().getLineNumber(place);
        findings.add("rule " + rule + ", line " + line + ": " + what);
    }

    private void lookAtCalls() {
        for (String cycle : graph.cycles()) {
            findings.add("rule 8, line 0: calls itself: " + cycle);
        }
        if (graph.cycles().isEmpty() && graph.deepest() > MOST_DEEP) {
            findings.add("rule 11, line 0: calls " + graph.deepest() + " deep");
        }
        if (classes > MOST_CLASSES) {
            findings.add("rule 11, line 0: " + classes + " classes");
        }
    }

    private TypeMirror typeOf(Tree tree) {
        return trees.getTypeMirror(new TreePath(getCurrentPath(), tree));
    }

    private Element elementOf(Tree tree) {
        return trees.getElement(new TreePath(getCurrentPath(), tree));
    }

    private boolean isText(Tree tree) {
        TypeMirror type = typeOf(tree);
        return type != null && type.toString().equals("java.lang.String");
    }

    private static boolean isInteger(TypeMirror type) {
        return type != null && type.toString().equals("java.lang.Integer");
    }

    @Override
    public Void visitCompilationUnit(CompilationUnitTree tree, Void none) {
        if (tree.getPackage() != null) {
            find(0, tree, "a package line");
        }
        if (tree.getTypeDecls().size() != 1) {
            find(0, tree, "more than one class outside");
        }
        return super.visitCompilationUnit(tree, none);
    }

    @Override
    public Void visitClass(ClassTree tree, Void none) {
        classes++;
        TypeElement self = (TypeElement) trees.getElement(getCurrentPath());
        Tree around = getCurrentPath().getParentPath().getLeaf();
        Set<Modifier> marks = self.getModifiers();
        if (around instanceof CompilationUnitTree) {
            boolean isFirst = unit.getTypeDecls().get(0) == tree;
            if (isFirst && !marks.containsAll(Set.of(Modifier.PUBLIC, Modifier.FINAL))) {
                find(1, tree, "not public and final");
            }
        } else if (around instanceof ClassTree) {
            if (!marks.contains(Modifier.STATIC) || marks.contains(Modifier.PUBLIC)
                    || marks.contains(Modifier.PROTECTED)) {
                find(1, tree, "a class inside that is not static, or is public or protected");
            }
        } else if (!tree.getSimpleName().contentEquals("")) {
            find(2, tree, "a local class");
        }
        if (library.isThrowable(self.getSuperclass())) {
            find(6, tree, "an exception class of its own");
        }
        lookAtMembers(tree);
        return super.visitClass(tree, none);
    }

    private void lookAtMembers(ClassTree tree) {
        int fields = 0;
        for (Tree member : tree.getMembers()) {
            Element element = elementOf(member);
            if (member instanceof VariableTree) {
                fields += element.getModifiers().contains(Modifier.STATIC) ? 0 : 1;
            }
            if (member instanceof BlockTree && ((BlockTree) member).isStatic()) {
                find(5, member, "a static initialiser");
            }
        }
        if (fields > MOST_FIELDS) {
            find(11, tree, fields + " fields");
        }
    }

    @Override
    public Void visitMethod(MethodTree tree, Void none) {
        ExecutableElement self = (ExecutableElement) trees.getElement(getCurrentPath());
        if (tree.getParameters().size() > MOST_PARAMETERS) {
            find(11, tree, tree.getParameters().size() + " parameters");
        }
        if (lines(tree) > MOST_LINES) {
            find(11, tree, lines(tree) + " lines");
        }
        if (!library.isType(self.getReturnType())) {
            find(3, tree, "answers " + self.getReturnType());
        }
        graph.method(self);
        MethodTree outer = method;
        method = tree;
        throwsHere = false;
        triesHere = false;
        super.visitMethod(tree, none);
        if (throwsHere && triesHere) {
            find(6, tree, "tries and throws");
        }
        method = outer;
        return null;
    }

    private long lines(MethodTree tree) {
        long from = trees.getSourcePositions().getStartPosition(unit, tree);
        long to = trees.getSourcePositions().getEndPosition(unit, tree);
        if (from < 0 || to < 0) {
            return 0;
        }
        return unit.getLineMap().getLineNumber(to) - unit.getLineMap().getLineNumber(from) + 1;
    }

    private boolean isInConstructor() {
        return method != null && method.getReturnType() == null;
    }

    @Override
    public Void visitVariable(VariableTree tree, Void none) {
        VariableElement self = (VariableElement) trees.getElement(getCurrentPath());
        boolean isCaught = getCurrentPath().getParentPath().getLeaf() instanceof CatchTree;
        if (!isCaught && !library.isType(self.asType())) {
            find(3, tree, "of type " + self.asType());
        }
        if (self.getModifiers().contains(Modifier.STATIC)) {
            lookAtStatic(tree, self);
        }
        return super.visitVariable(tree, none);
    }

    private void lookAtStatic(VariableTree tree, VariableElement self) {
        boolean isWrittenOut = tree.getInitializer() instanceof NewArrayTree
                && ((NewArrayTree) tree.getInitializer()).getInitializers() != null
                && CONSTANT_ELEMENTS.contains(library.elementKind(self.asType()));
        boolean isValues = tree.getInitializer() instanceof MethodInvocationTree
                && tree.getInitializer().toString().endsWith("values()");
        boolean isEnum = self.getKind() == ElementKind.ENUM_CONSTANT;
        boolean isConstant = self.getConstantValue() != null && (library.isText(self.asType())
                || Set.of(TypeKind.INT, TypeKind.LONG, TypeKind.BOOLEAN, TypeKind.CHAR)
                        .contains(self.asType().getKind()));
        if (!self.getModifiers().contains(Modifier.FINAL)
                || !isWrittenOut && !isValues && !isEnum && !isConstant) {
            find(5, tree, "static state: " + self);
        }
    }

    @Override
    public Void visitAssignment(AssignmentTree tree, Void none) {
        lookAtChange(tree.getVariable());
        return super.visitAssignment(tree, none);
    }

    @Override
    public Void visitCompoundAssignment(CompoundAssignmentTree tree, Void none) {
        lookAtChange(tree.getVariable());
        if (isText(tree.getVariable())) {
            find(10, tree, "texts joined by +=");
        }
        boolean divides = tree.getKind() == Tree.Kind.DIVIDE_ASSIGNMENT
                || tree.getKind() == Tree.Kind.REMAINDER_ASSIGNMENT;
        if (divides) {
            lookAtDivisor(tree, tree.getExpression());
        }
        return super.visitCompoundAssignment(tree, none);
    }

    private void lookAtChange(ExpressionTree target) {
        if (target instanceof ArrayAccessTree) {
            ExpressionTree array = ((ArrayAccessTree) target).getExpression();
            Element element = elementOf(array);
            if (element != null && element.getModifiers().contains(Modifier.STATIC)) {
                find(5, target, "a static array is changed");
            }
        }
    }

    @Override
    public Void visitUnary(UnaryTree tree, Void none) {
        if (tree.getKind() == Tree.Kind.POSTFIX_INCREMENT || tree.getKind() == Tree.Kind.PREFIX_INCREMENT
                || tree.getKind() == Tree.Kind.POSTFIX_DECREMENT
                || tree.getKind() == Tree.Kind.PREFIX_DECREMENT) {
            lookAtChange(tree.getExpression());
        }
        return super.visitUnary(tree, none);
    }

    @Override
    public Void visitBinary(BinaryTree tree, Void none) {
        boolean compares = tree.getKind() == Tree.Kind.EQUAL_TO || tree.getKind() == Tree.Kind.NOT_EQUAL_TO;
        boolean areTexts = isText(tree.getLeftOperand()) && isText(tree.getRightOperand());
        boolean areIntegers = isInteger(typeOf(tree.getLeftOperand()))
                && isInteger(typeOf(tree.getRightOperand()));
        if (compares && (areTexts || areIntegers)) {
            find(6, tree, "== between texts or Integers");
        }
        if (tree.getKind() == Tree.Kind.PLUS && (isText(tree.getLeftOperand()) || isText(tree.getRightOperand()))) {
            find(10, tree, "texts joined by +");
        }
        if (tree.getKind() == Tree.Kind.DIVIDE || tree.getKind() == Tree.Kind.REMAINDER) {
            lookAtDivisor(tree, tree.getRightOperand());
        }
        return super.visitBinary(tree, none);
    }

    private void lookAtDivisor(Tree tree, ExpressionTree divisor) {
        Element element = elementOf(divisor);
        Object value = divisor instanceof LiteralTree ? ((LiteralTree) divisor).getValue()
                : element instanceof VariableElement ? ((VariableElement) element).getConstantValue() : null;
        if (!(value instanceof Number) || ((Number) value).longValue() == 0) {
            find(7, tree, "a divisor that may be 0");
        }
    }

    @Override
    public Void visitLiteral(LiteralTree tree, Void none) {
        if (tree.getValue() instanceof String || tree.getValue() instanceof Character) {
            if (tree.getValue().toString().chars().anyMatch(sign -> sign > 255)) {
                find(3, tree, "a character above 255");
            }
        }
        return super.visitLiteral(tree, none);
    }

    @Override
    public Void visitMethodInvocation(MethodInvocationTree tree, Void none) {
        ExecutableElement called = (ExecutableElement) trees.getElement(getCurrentPath());
        if (library.isOwn(called.getEnclosingElement())) {
            graph.call(self(), called);
            lookAtCallInConstructor(tree, called);
        } else {
            ExpressionTree select = tree.getMethodSelect();
            boolean isSelect = select instanceof MemberSelectTree;
            TypeMirror on = isSelect ? typeOf(((MemberSelectTree) select).getExpression()) : null;
            boolean isMaker = select.toString().equals("super") || select.toString().equals("this");
            if (!isMaker && !library.has(on, called, typesOf(tree.getArguments()))) {
                find(4, tree, "calls " + on + "." + called);
            }
        }
        return super.visitMethodInvocation(tree, none);
    }

    private List<TypeMirror> typesOf(List<? extends ExpressionTree> trees) {
        List<TypeMirror> types = new ArrayList<>();
        for (ExpressionTree tree : trees) {
            types.add(typeOf(tree));
        }
        return types;
    }

    private void lookAtCallInConstructor(Tree tree, ExecutableElement called) {
        Set<Modifier> marks = called.getModifiers();
        boolean canBeOverridden = !marks.contains(Modifier.PRIVATE) && !marks.contains(Modifier.STATIC)
                && !marks.contains(Modifier.FINAL)
                && !called.getEnclosingElement().getModifiers().contains(Modifier.FINAL);
        boolean isMaker = called.getSimpleName().contentEquals("<init>");
        if (isInConstructor() && canBeOverridden && !isMaker) {
            find(12, tree, "a constructor calls " + called);
        }
    }

    private ExecutableElement self() {
        TreePath path = getCurrentPath();
        while (path != null && !(path.getLeaf() instanceof MethodTree)) {
            path = path.getParentPath();
        }
        return path == null ? null : (ExecutableElement) trees.getElement(path);
    }

    @Override
    public Void visitNewClass(NewClassTree tree, Void none) {
        ExecutableElement maker = (ExecutableElement) trees.getElement(getCurrentPath());
        Element made = maker.getEnclosingElement();
        boolean isThrown = getCurrentPath().getParentPath().getLeaf() instanceof ThrowTree;
        if (library.isOwn(made)) {
            graph.call(self(), maker);
        } else if (!isThrown && !library.isMade(made.toString())) {
            find(4, tree, "makes " + made);
        }
        if (!isThrown && method != null && !isInConstructor()) {
            find(12, tree, "a call makes " + made);
        }
        return super.visitNewClass(tree, none);
    }

    @Override
    public Void visitNewArray(NewArrayTree tree, Void none) {
        if (method != null && !isInConstructor()) {
            find(12, tree, "a call makes an array");
        }
        return super.visitNewArray(tree, none);
    }

    @Override
    public Void visitIdentifier(IdentifierTree tree, Void none) {
        Tree around = getCurrentPath().getParentPath().getLeaf();
        boolean isHandedOut = !(around instanceof MemberSelectTree)
                && !(around instanceof MethodInvocationTree
                        && ((MethodInvocationTree) around).getMethodSelect() == tree);
        if (tree.getName().contentEquals("this") && isInConstructor() && isHandedOut) {
            find(12, tree, "a constructor hands out its object");
        }
        return super.visitIdentifier(tree, none);
    }

    @Override
    public Void visitThrow(ThrowTree tree, Void none) {
        throwsHere = true;
        if (isInConstructor()) {
            find(6, tree, "a constructor throws");
        }
        if (!isNewException(tree.getExpression())) {
            find(6, tree, "throws otherwise than by new E() or new E(\"..\")");
        }
        return super.visitThrow(tree, none);
    }

    private boolean isNewException(ExpressionTree thrown) {
        if (!(thrown instanceof NewClassTree)) {
            return false;
        }
        List<? extends ExpressionTree> arguments = ((NewClassTree) thrown).getArguments();
        boolean isPlain = arguments.isEmpty()
                || arguments.size() == 1 && arguments.get(0).getKind() == Tree.Kind.STRING_LITERAL;
        return isPlain && THROWN.contains(typeOf(thrown).toString());
    }

    @Override
    public Void visitTry(TryTree tree, Void none) {
        triesHere = true;
        if (tree.getFinallyBlock() != null || !tree.getResources().isEmpty()) {
            find(6, tree, "finally, or a try with resources");
        }
        return super.visitTry(tree, none);
    }

    @Override
    public Void visitCatch(CatchTree tree, Void none) {
        String caught = tree.getParameter().getName().toString();
        if (!THROWN.contains(typeOf(tree.getParameter().getType()).toString())) {
            find(6, tree, "catches " + typeOf(tree.getParameter().getType()));
        }
        if (tree.getBlock().toString().matches("(?s).*\\b" + caught + "\\b.*")) {
            find(6, tree, "uses the exception that it caught");
        }
        return super.visitCatch(tree, none);
    }

    @Override
    public Void visitTypeCast(TypeCastTree tree, Void none) {
        if (!typeOf(tree.getType()).getKind().isPrimitive()) {
            find(6, tree, "a cast to a class");
        }
        return super.visitTypeCast(tree, none);
    }

    @Override
    public Void visitSynchronized(SynchronizedTree tree, Void none) {
        find(6, tree, "synchronized");
        return super.visitSynchronized(tree, none);
    }

    @Override
    public Void visitAssert(AssertTree tree, Void none) {
        find(6, tree, "assert");
        return super.visitAssert(tree, none);
    }

    @Override
    public Void visitLambdaExpression(LambdaExpressionTree tree, Void none) {
        find(2, tree, "a lambda");
        return super.visitLambdaExpression(tree, none);
    }

    @Override
    public Void visitMemberReference(MemberReferenceTree tree, Void none) {
        find(2, tree, "a method reference");
        return super.visitMemberReference(tree, none);
    }

    @Override
    public Void visitForLoop(ForLoopTree tree, Void none) {
        if (tree.getCondition() == null || tree.getUpdate().isEmpty()) {
            find(9, tree, "a for without a bound or a step");
        }
        return super.visitForLoop(tree, none);
    }

    @Override
    public Void visitWhileLoop(WhileLoopTree tree, Void none) {
        lookAtBound(tree, tree.getCondition());
        return super.visitWhileLoop(tree, none);
    }

    @Override
    public Void visitDoWhileLoop(DoWhileLoopTree tree, Void none) {
        lookAtBound(tree, tree.getCondition());
        return super.visitDoWhileLoop(tree, none);
    }

    private void lookAtBound(Tree tree, ExpressionTree condition) {
        if (condition.toString().equals("(true)")) {
            find(9, tree, "a loop without a bound");
        }
    }

    @Override
    public Void visitSwitch(SwitchTree tree, Void none) {
        if (isText(tree.getExpression())) {
            find(10, tree, "a switch on a text");
        }
        return super.visitSwitch(tree, none);
    }

    @Override
    public Void visitSwitchExpression(SwitchExpressionTree tree, Void none) {
        if (isText(tree.getExpression())) {
            find(10, tree, "a switch on a text");
        }
        return super.visitSwitchExpression(tree, none);
    }
}
