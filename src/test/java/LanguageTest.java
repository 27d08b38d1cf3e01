import com.sun.source.tree.ArrayTypeTree;
import com.sun.source.tree.AssertTree;
import com.sun.source.tree.BinaryTree;
import com.sun.source.tree.BlockTree;
import com.sun.source.tree.ClassTree;
import com.sun.source.tree.CompilationUnitTree;
import com.sun.source.tree.DoWhileLoopTree;
import com.sun.source.tree.EnhancedForLoopTree;
import com.sun.source.tree.ExpressionTree;
import com.sun.source.tree.ForLoopTree;
import com.sun.source.tree.LambdaExpressionTree;
import com.sun.source.tree.LineMap;
import com.sun.source.tree.MemberReferenceTree;
import com.sun.source.tree.MethodInvocationTree;
import com.sun.source.tree.MethodTree;
import com.sun.source.tree.NewArrayTree;
import com.sun.source.tree.NewClassTree;
import com.sun.source.tree.ParenthesizedTree;
import com.sun.source.tree.SwitchExpressionTree;
import com.sun.source.tree.SwitchTree;
import com.sun.source.tree.SynchronizedTree;
import com.sun.source.tree.ThrowTree;
import com.sun.source.tree.Tree;
import com.sun.source.tree.TryTree;
import com.sun.source.tree.TypeCastTree;
import com.sun.source.tree.VariableTree;
import com.sun.source.tree.WhileLoopTree;
import com.sun.source.util.JavacTask;
import com.sun.source.util.TreePath;
import com.sun.source.util.TreePathScanner;
import com.sun.source.util.Trees;
import java.io.IOException;
import java.nio.file.Path;
import java.util.ArrayDeque;
import java.util.Deque;
import java.util.HashSet;
import java.util.LinkedHashMap;
import java.util.List;
import java.util.Map;
import java.util.Set;
import java.util.TreeSet;
import javax.lang.model.element.Element;
import javax.lang.model.element.ElementKind;
import javax.lang.model.element.ExecutableElement;
import javax.lang.model.element.Modifier;
import javax.lang.model.element.TypeElement;
import javax.lang.model.element.VariableElement;
import javax.lang.model.type.ArrayType;
import javax.lang.model.type.DeclaredType;
import javax.lang.model.type.TypeKind;
import javax.lang.model.type.TypeMirror;
import javax.tools.JavaCompiler;
import javax.tools.StandardJavaFileManager;
import javax.tools.ToolProvider;

/** The rules of LANGUAGE.md, by their numbers, as far as the compiler's own reading of the class can tell them. */
public final class LanguageTest extends TreePathScanner<Void, Void> {
    private static final Path SOURCE = Path.of("src/main/java/TramFaith.java");
    /** Of the library's list, what the class may use as it stands: none of these makes an object. */
    private static final Set<String> LIBRARY = Set.of("java.util.Arrays.fill", "java.lang.Math.max",
        "java.lang.Math.min", "java.lang.Integer.bitCount", "java.lang.System.arraycopy", "java.lang.String.indexOf",
        "java.lang.Object.<init>");
    private static final Set<TypeKind> NUMBERS = Set.of(TypeKind.INT, TypeKind.LONG, TypeKind.SHORT, TypeKind.BYTE,
        TypeKind.CHAR, TypeKind.BOOLEAN);
    private static final Set<Tree.Kind> COMPARISONS = Set.of(Tree.Kind.LESS_THAN, Tree.Kind.LESS_THAN_EQUAL,
        Tree.Kind.GREATER_THAN, Tree.Kind.GREATER_THAN_EQUAL);
    private static final int MOST_PARAMETERS = 7, MOST_LINES = 60, MOST_DEEP = 8, MOST_CLASSES = 12, MOST_FIELDS = 20;

    private final Check check = new Check();
    private final Trees trees;
    private final CompilationUnitTree unit;
    private final LineMap lines;
    private final Set<TypeElement> classes = new HashSet<>();
    /** What each method calls, where one of a class below may stand in its place. */
    private final Map<ExecutableElement, Set<ExecutableElement>> calls = new LinkedHashMap<>();
    /** What each method calls by super: that one alone is meant. */
    private final Map<ExecutableElement, Set<ExecutableElement>> callsAbove = new LinkedHashMap<>();

    private LanguageTest(JavacTask task, CompilationUnitTree unit) {
        trees = Trees.instance(task);
        this.unit = unit;
        lines = unit.getLineMap();
    }

    public static void main(String[] args) throws IOException {
        JavaCompiler compiler = ToolProvider.getSystemJavaCompiler();
        try (StandardJavaFileManager files = compiler.getStandardFileManager(null, null, null)) {
            JavacTask task = (JavacTask) compiler.getTask(null, files, null, List.of("--release", "17", "-proc:none"),
                null, files.getJavaFileObjects(SOURCE));
            CompilationUnitTree unit = task.parse().iterator().next();
            task.analyze();
            LanguageTest test = new LanguageTest(task, unit);
            test.scan(unit, null);
            test.lookAtCalls();
            test.check.end("LanguageTest");
        }
    }

    private void rule(int number, Tree where, String told, boolean holds) {
        long line = lines.getLineNumber(trees.getSourcePositions().getStartPosition(unit, where));
        check.due("rule " + number + ", line " + line + ": " + told, holds ? 1 : 0, 1);
    }

    private Element element(Tree tree) {
        return trees.getElement(TreePath.getPath(unit, tree));
    }

    private TypeMirror type(Tree tree) {
        return trees.getTypeMirror(TreePath.getPath(unit, tree));
    }

    private static boolean isOwn(Element element) {
        for (Element at = element; at != null; at = at.getEnclosingElement()) {
            if (at.getSimpleName().contentEquals("TramFaith")) {
                return true;
            }
        }
        return false;
    }

    @Override
    public Void visitCompilationUnit(CompilationUnitTree tree, Void none) {
        rule(1, tree, "no package line", tree.getPackageName() == null);
        rule(1, tree, "one class in the file, the public one", tree.getTypeDecls().size() == 1);
        super.visitCompilationUnit(tree, none);
        rule(11, tree, "classes: " + classes.size(), classes.size() <= MOST_CLASSES);
        return null;
    }

    @Override
    public Void visitClass(ClassTree tree, Void none) {
        TypeElement one = (TypeElement) element(tree);
        classes.add(one);
        boolean isOuter = one.getEnclosingElement().getKind() == ElementKind.PACKAGE;
        rule(2, tree, "no local or anonymous class", isOuter || one.getEnclosingElement().getKind().isClass());
        rule(2, tree, "a class inside is static", isOuter || one.getModifiers().contains(Modifier.STATIC));
        rule(1, tree, "a class inside is private or package-visible", isOuter
            || !one.getModifiers().contains(Modifier.PUBLIC) && !one.getModifiers().contains(Modifier.PROTECTED));
        rule(4, tree, "no annotation", tree.getModifiers().getAnnotations().isEmpty());
        long fields = one.getEnclosedElements().stream()
            .filter(e -> e.getKind() == ElementKind.FIELD && !e.getModifiers().contains(Modifier.STATIC)).count();
        rule(11, tree, "fields: " + fields, fields <= MOST_FIELDS);
        for (Tree member : tree.getMembers()) {
            rule(5, tree, "no block but those of methods", !(member instanceof BlockTree));
        }
        return super.visitClass(tree, none);
    }

    @Override
    public Void visitMethod(MethodTree tree, Void none) {
        ExecutableElement one = (ExecutableElement) element(tree);
        calls.computeIfAbsent(one, key -> new HashSet<>());
        rule(11, tree, tree.getName() + " has few parameters", tree.getParameters().size() <= MOST_PARAMETERS);
        long from = lines.getLineNumber(trees.getSourcePositions().getStartPosition(unit, tree));
        long to = lines.getLineNumber(Math.max(0, trees.getSourcePositions().getEndPosition(unit, tree)));
        rule(11, tree, tree.getName() + " is short", to - from < MOST_LINES);
        rule(4, tree, tree.getName() + " has no annotation", tree.getModifiers().getAnnotations().isEmpty());
        rule(6, tree, tree.getName() + " tells no exception", tree.getThrows().isEmpty());
        rule(6, tree, tree.getName() + " is none of equals, hashCode, toString",
            !Set.of("equals", "hashCode", "toString").contains(tree.getName().toString()));
        return super.visitMethod(tree, none);
    }

    @Override
    public Void visitVariable(VariableTree tree, Void none) {
        VariableElement one = (VariableElement) element(tree);
        rule(3, tree, tree.getName() + " is of a type that is listed: " + one.asType(), isListed(one.asType(), 0));
        boolean isField = one.getKind() == ElementKind.FIELD;
        if (isField && one.getModifiers().contains(Modifier.STATIC)) {
            rule(5, tree, tree.getName() + " is final", one.getModifiers().contains(Modifier.FINAL));
            rule(5, tree, tree.getName() + " is a constant", one.getConstantValue() != null);
        }
        return super.visitVariable(tree, none);
    }

    /** Numbers, their arrays to two dimensions, own classes and their arrays, String. */
    private static boolean isListed(TypeMirror type, int dimensions) {
        if (type.getKind() == TypeKind.ARRAY) {
            return isListed(((ArrayType) type).getComponentType(), dimensions + 1);
        }
        if (NUMBERS.contains(type.getKind())) {
            return dimensions <= 2;
        }
        boolean isString = type.toString().equals("java.lang.String");
        boolean isOwn = type.toString().startsWith("TramFaith");
        return isString && dimensions == 0 || isOwn && dimensions <= 1;
    }

    @Override
    public Void visitMethodInvocation(MethodInvocationTree tree, Void none) {
        ExecutableElement meant = (ExecutableElement) element(tree.getMethodSelect());
        String name = meant.getEnclosingElement() + "." + meant.getSimpleName();
        rule(4, tree, name + " is one's own, or listed", isOwn(meant) || LIBRARY.contains(name));
        noteCall(meant, tree.getMethodSelect().toString().startsWith("super") ? callsAbove : calls);
        return super.visitMethodInvocation(tree, none);
    }

    @Override
    public Void visitNewClass(NewClassTree tree, Void none) {
        rule(2, tree, "no anonymous class", tree.getClassBody() == null);
        rule(3, tree, "an own class is made", isOwn(element(tree)));
        rule(12, tree, "made in a constructor", isMadeOnce());
        noteCall((ExecutableElement) element(tree), callsAbove);
        return super.visitNewClass(tree, none);
    }

    @Override
    public Void visitNewArray(NewArrayTree tree, Void none) {
        rule(12, tree, "made in a constructor", isMadeOnce());
        rule(3, tree, "an array of a type that is listed: " + type(tree), isListed(type(tree), 0));
        return super.visitNewArray(tree, none);
    }

    private ExecutableElement methodAround() {
        for (TreePath path = getCurrentPath(); path != null; path = path.getParentPath()) {
            if (path.getLeaf() instanceof MethodTree method) {
                return (ExecutableElement) element(method);
            }
        }
        return null;
    }

    /** In a constructor, or as a field's first value; no loop around it. */
    private boolean isMadeOnce() {
        for (TreePath path = getCurrentPath(); path != null; path = path.getParentPath()) {
            Tree leaf = path.getLeaf();
            if (leaf instanceof ForLoopTree || leaf instanceof WhileLoopTree || leaf instanceof DoWhileLoopTree
                    || leaf instanceof EnhancedForLoopTree) {
                return false;
            }
        }
        ExecutableElement around = methodAround();
        return around == null || around.getKind() == ElementKind.CONSTRUCTOR;
    }

    private void noteCall(ExecutableElement meant, Map<ExecutableElement, Set<ExecutableElement>> kept) {
        ExecutableElement around = methodAround();
        if (around != null) {
            kept.computeIfAbsent(around, key -> new HashSet<>()).add(meant);
        }
    }

    @Override
    public Void visitLambdaExpression(LambdaExpressionTree tree, Void none) {
        rule(2, tree, "no lambda", false);
        return null;
    }

    @Override
    public Void visitMemberReference(MemberReferenceTree tree, Void none) {
        rule(2, tree, "no method reference", false);
        return null;
    }

    @Override
    public Void visitThrow(ThrowTree tree, Void none) {
        rule(6, tree, "no throw", false);
        return null;
    }

    @Override
    public Void visitTry(TryTree tree, Void none) {
        rule(6, tree, "no try", false);
        return null;
    }

    @Override
    public Void visitSynchronized(SynchronizedTree tree, Void none) {
        rule(6, tree, "no synchronized", false);
        return null;
    }

    @Override
    public Void visitAssert(AssertTree tree, Void none) {
        rule(6, tree, "no assert", false);
        return null;
    }

    @Override
    public Void visitTypeCast(TypeCastTree tree, Void none) {
        rule(6, tree, "a cast among numbers", NUMBERS.contains(type(tree.getType()).getKind())
            && NUMBERS.contains(type(tree.getExpression()).getKind()));
        return super.visitTypeCast(tree, none);
    }

    @Override
    public Void visitSwitch(SwitchTree tree, Void none) {
        rule(10, tree, "a switch on a number", type(tree.getExpression()).getKind() == TypeKind.INT);
        return super.visitSwitch(tree, none);
    }

    @Override
    public Void visitSwitchExpression(SwitchExpressionTree tree, Void none) {
        rule(10, tree, "a switch on a number", type(tree.getExpression()).getKind() == TypeKind.INT);
        return super.visitSwitchExpression(tree, none);
    }

    @Override
    public Void visitBinary(BinaryTree tree, Void none) {
        boolean ofNumbers = NUMBERS.contains(type(tree.getLeftOperand()).getKind())
            && NUMBERS.contains(type(tree.getRightOperand()).getKind());
        rule(6, tree, "numbers on both sides, no texts joined or compared", ofNumbers);
        if (tree.getKind() == Tree.Kind.DIVIDE || tree.getKind() == Tree.Kind.REMAINDER) {
            rule(7, tree, "a divisor that was looked at: " + tree, isLookedAt(tree.getRightOperand()));
        }
        return super.visitBinary(tree, none);
    }

    /** A constant that is not 0, or one of the few divisors whose test was read by eye and stands here by name. */
    private boolean isLookedAt(ExpressionTree divisor) {
        Element named = element(divisor);
        if (named instanceof VariableElement one && one.getConstantValue() instanceof Number constant) {
            return constant.longValue() != 0;
        }
        return Set.of("less", "play.people", "(MOST_FAITH + 1)", "sharedBy(above, below)").contains(divisor.toString());
    }

    @Override
    public Void visitForLoop(ForLoopTree tree, Void none) {
        rule(9, tree, "a counter against a bound", tree.getCondition() != null && compares(tree.getCondition()));
        rule(9, tree, "a step", tree.getUpdate().size() == 1);
        return super.visitForLoop(tree, none);
    }

    @Override
    public Void visitWhileLoop(WhileLoopTree tree, Void none) {
        rule(9, tree, "a counter against a bound", compares(tree.getCondition()));
        return super.visitWhileLoop(tree, none);
    }

    @Override
    public Void visitDoWhileLoop(DoWhileLoopTree tree, Void none) {
        rule(9, tree, "a counter against a bound", compares(tree.getCondition()));
        return super.visitDoWhileLoop(tree, none);
    }

    private static boolean compares(ExpressionTree condition) {
        if (condition instanceof ParenthesizedTree inside) {
            return compares(inside.getExpression());
        }
        if (condition instanceof BinaryTree both && both.getKind() == Tree.Kind.CONDITIONAL_AND) {
            return compares(both.getLeftOperand()) || compares(both.getRightOperand());
        }
        return COMPARISONS.contains(condition.getKind());
    }

    @Override
    public Void visitArrayType(ArrayTypeTree tree, Void none) {
        rule(3, tree, "an array of a type that is listed", isListed(type(tree), 0));
        return super.visitArrayType(tree, none);
    }

    /** Rules 8 and 11: no method comes to itself again, and no way of calls is longer than told. */
    private void lookAtCalls() {
        int deepest = 0;
        for (ExecutableElement method : Set.copyOf(calls.keySet())) {
            deepest = Math.max(deepest, depth(method, new ArrayDeque<>()));
        }
        check.due("rule 11: calls go at most eight deep: " + deepest, deepest <= MOST_DEEP ? 1 : 0, 1);
        Set<String> open = new TreeSet<>();
        calls.keySet().stream().filter(m -> m.getKind() == ElementKind.METHOD)
            .filter(m -> m.getModifiers().contains(Modifier.PUBLIC))
            .forEach(m -> open.add(m.getSimpleName().toString()));
        for (ExecutableElement method : calls.keySet()) {
            boolean isHidden = method.getModifiers().contains(Modifier.PRIVATE);
            boolean isBorne = isHidden && open.contains(method.getSimpleName().toString());
            check.due("rule 1: no private method bears the name of a public one: " + method, isBorne ? 0 : 1, 1);
        }
    }

    private int depth(ExecutableElement method, Deque<ExecutableElement> open) {
        if (open.contains(method)) {
            check.due("rule 8: " + method + " comes to itself again", 0, 1);
            return open.size();
        }
        open.push(method);
        Set<ExecutableElement> meant = new HashSet<>(callsAbove.getOrDefault(method, Set.of()));
        for (ExecutableElement called : calls.getOrDefault(method, Set.of())) {
            meant.add(called);
            calls.keySet().stream().filter(below -> overrides(below, called)).forEach(meant::add);
        }
        int deepest = 1;
        for (ExecutableElement called : meant) {
            deepest = Math.max(deepest, 1 + depth(called, open));
        }
        open.pop();
        return deepest;
    }

    private static boolean overrides(ExecutableElement below, ExecutableElement above) {
        if (!below.getSimpleName().equals(above.getSimpleName())
                || below.getParameters().size() != above.getParameters().size()) {
            return false;
        }
        TypeElement at = (TypeElement) below.getEnclosingElement();
        while (at.getSuperclass() instanceof DeclaredType up) {
            at = (TypeElement) up.asElement();
            if (at.equals(above.getEnclosingElement())) {
                return true;
            }
        }
        return false;
    }
}
