import com.sun.source.tree.ArrayTypeTree;
import com.sun.source.tree.AssertTree;
import com.sun.source.tree.BinaryTree;
import com.sun.source.tree.ClassTree;
import com.sun.source.tree.CompilationUnitTree;
import com.sun.source.tree.CompoundAssignmentTree;
import com.sun.source.tree.DoWhileLoopTree;
import com.sun.source.tree.ExpressionTree;
import com.sun.source.tree.ForLoopTree;
import com.sun.source.tree.IdentifierTree;
import com.sun.source.tree.ImportTree;
import com.sun.source.tree.InstanceOfTree;
import com.sun.source.tree.LambdaExpressionTree;
import com.sun.source.tree.LiteralTree;
import com.sun.source.tree.MemberReferenceTree;
import com.sun.source.tree.MemberSelectTree;
import com.sun.source.tree.MethodInvocationTree;
import com.sun.source.tree.MethodTree;
import com.sun.source.tree.NewArrayTree;
import com.sun.source.tree.NewClassTree;
import com.sun.source.tree.SynchronizedTree;
import com.sun.source.tree.ThrowTree;
import com.sun.source.tree.Tree;
import com.sun.source.tree.TryTree;
import com.sun.source.tree.TypeCastTree;
import com.sun.source.tree.VariableTree;
import com.sun.source.tree.WhileLoopTree;
import com.sun.source.util.JavacTask;
import com.sun.source.util.TreePath;
import com.sun.source.util.TreePathScanner;
import com.sun.source.util.Trees;
import java.io.IOException;
import java.nio.file.Files;
import java.nio.file.Path;
import java.util.ArrayList;
import java.util.List;
import java.util.Map;
import java.util.Set;
import java.util.TreeMap;
import java.util.TreeSet;
import javax.lang.model.element.Element;
import javax.lang.model.element.ElementKind;
import javax.lang.model.element.Modifier;
import javax.lang.model.type.TypeKind;
import javax.lang.model.type.TypeMirror;
import javax.tools.JavaCompiler;
import javax.tools.StandardJavaFileManager;
import javax.tools.ToolProvider;

/**
 * The program keeps to ../shared/LANGUAGE.md, read as javac reads it. Where the rules leave more than the program
 * needs (recursion, lists, objects made by calls), this holds it to what it does: none.
 */
public final class LanguageTest extends TreePathScanner<Void, Void> {
    private static final int MOST_LINES = 40;
    private static final int MOST_PARAMETERS = 7;
    private static final int MOST_CALLS_DEEP = 8;
    private static final int MOST_CLASSES = 12;
    private static final int MOST_FIELDS = 20;
    private static final Set<String> NUMBERS = Set.of("int", "long", "short", "byte", "char", "double", "float");
    private static final Set<String> STATIC_TYPES =
        Set.of("int", "long", "boolean", "char", "java.lang.String", "int[]", "long[]", "char[]", "byte[]");
    /** Of rule 4's static functions those that the program may use; none of them can throw. */
    private static final Set<String> LIBRARY = Set.of(
        "java.lang.Math.min", "java.lang.Math.max", "java.lang.Math.abs", "java.lang.Integer.bitCount",
        "java.lang.Object.<init>");

    private final Trees trees;
    private final CompilationUnitTree unit;
    private final Set<String> ownTypes = new TreeSet<>();
    private final Map<String, Set<String>> calls = new TreeMap<>();
    private int methods = 0;

    private LanguageTest(Trees trees, CompilationUnitTree unit) {
        this.trees = trees;
        this.unit = unit;
    }

    public static void main(String[] args) throws IOException {
        Path source = Path.of(args.length > 0 ? args[0] : "src/main/java/GutterGardens.java");
        signsArePlain(Files.readString(source));
        JavaCompiler javac = ToolProvider.getSystemJavaCompiler();
        try (StandardJavaFileManager files = javac.getStandardFileManager(null, null, null)) {
            JavacTask task = (JavacTask) javac.getTask(null, files, null, List.of("-proc:none"), null,
                files.getJavaFileObjects(source));
            CompilationUnitTree unit = task.parse().iterator().next();
            task.analyze();
            new LanguageTest(Trees.instance(task), unit).look();
        }
        Due.end();
    }

    private static void signsArePlain(String source) {
        for (char c : source.toCharArray()) {
            if (c > 126 || c < 32 && c != '\n') Due.that("rule 4: sign " + (int) c, false);
        }
    }

    private void look() {
        Due.that("no package", unit.getPackageName() == null);
        Due.is("classes in the file", unit.getTypeDecls().size(), 1);
        new TreePathScanner<Void, Void>() {
            @Override
            public Void visitClass(ClassTree tree, Void none) {
                ownTypes.add(trees.getElement(getCurrentPath()).toString());
                return super.visitClass(tree, none);
            }
        }.scan(new TreePath(unit), null);
        scan(new TreePath(unit), null);
        Due.that("rule 11: classes are " + ownTypes, ownTypes.size() <= MOST_CLASSES);
        Due.that("methods are found", methods > 60 && calls.size() > 60);
        for (String method : calls.keySet()) {
            Due.that("rule 11: calls from " + method, depthFrom(method, new ArrayList<>()) <= MOST_CALLS_DEEP);
        }
    }

    /** How many calls stand open at once, the method itself one of them. */
    private int depthFrom(String method, List<String> above) {
        boolean isOpen = above.contains(method);
        Due.that("rule 8: no recursion through " + method, !isOpen);
        if (isOpen) return 0;
        List<String> open = new ArrayList<>(above);
        open.add(method);
        int deepest = 0;
        for (String called : calls.getOrDefault(method, Set.of())) {
            deepest = Math.max(deepest, depthFrom(called, open));
        }
        return 1 + deepest;
    }

    private void rule(String what, Tree tree, boolean holds) {
        long line = unit.getLineMap().getLineNumber(trees.getSourcePositions().getStartPosition(unit, tree));
        Due.that("line " + line + ": rule " + what, holds);
    }

    private Element element() {
        return trees.getElement(getCurrentPath());
    }

    private TypeMirror type(Tree tree) {
        return trees.getTypeMirror(new TreePath(getCurrentPath(), tree));
    }

    private MethodTree around() {
        for (TreePath path = getCurrentPath(); path != null; path = path.getParentPath()) {
            if (path.getLeaf() instanceof MethodTree method) return method;
        }
        return null;
    }

    // ---- classes, methods, fields

    @Override
    public Void visitClass(ClassTree tree, Void none) {
        Element element = element();
        rule("2: no class within a method", tree, around() == null);
        if (element.getEnclosingElement().getKind() == ElementKind.CLASS) {
            Set<Modifier> is = element.getModifiers();
            rule("1: classes inside are static, and not public", tree, is.contains(Modifier.STATIC)
                && !is.contains(Modifier.PUBLIC) && !is.contains(Modifier.PROTECTED));
        }
        long fields = tree.getMembers().stream().filter(member -> member instanceof VariableTree field
            && !field.getModifiers().getFlags().contains(Modifier.STATIC)).count();
        rule("11: some twenty fields", tree, fields <= MOST_FIELDS);
        rule("5: no static initialiser", tree, tree.getMembers().stream().noneMatch(m -> m.getKind() == Tree.Kind.BLOCK));
        return super.visitClass(tree, none);
    }

    @Override
    public Void visitMethod(MethodTree tree, Void none) {
        methods++;
        calls.computeIfAbsent(nameOf(element()), name -> new TreeSet<>());
        String name = tree.getName().toString();
        rule("6: no " + name, tree, !Set.of("equals", "hashCode", "toString", "finalize").contains(name));
        rule("6: " + name + " throws nothing", tree, tree.getThrows().isEmpty());
        Set<Modifier> is = tree.getModifiers().getFlags();
        rule("6: " + name + " is plain", tree, !is.contains(Modifier.SYNCHRONIZED) && !is.contains(Modifier.NATIVE));
        rule("11: parameters of " + name, tree, tree.getParameters().size() <= MOST_PARAMETERS);
        rule("11: lines of " + name, tree, tree.toString().lines().count() <= MOST_LINES);
        if (tree.getReturnType() != null) typeIsLeft(tree.getReturnType());
        return super.visitMethod(tree, none);
    }

    @Override
    public Void visitVariable(VariableTree tree, Void none) {
        typeIsLeft(tree.getType());
        Element element = element();
        if (element.getKind() == ElementKind.FIELD && element.getModifiers().contains(Modifier.STATIC)) {
            rule("5: static is final: " + tree.getName(), tree, element.getModifiers().contains(Modifier.FINAL));
            rule("5: static type of " + tree.getName(), tree, STATIC_TYPES.contains(element.asType().toString()));
        }
        return super.visitVariable(tree, none);
    }

    private void typeIsLeft(Tree tree) {
        String name = type(tree).toString();
        String one = name.replaceFirst("(\\[\\])*$", "");
        boolean isKnown = NUMBERS.contains(one) || Set.of("void", "boolean", "java.lang.String").contains(one)
            || ownTypes.contains(one);
        int dimensions = (name.length() - one.length()) / 2;
        rule("3: the type " + name, tree, isKnown && (dimensions <= 1 || dimensions == 2 && NUMBERS.contains(one)));
    }

    // ---- calls, objects

    @Override
    public Void visitMethodInvocation(MethodInvocationTree tree, Void none) {
        called(tree, element());
        return super.visitMethodInvocation(tree, none);
    }

    @Override
    public Void visitNewClass(NewClassTree tree, Void none) {
        rule("2: no class without a name", tree, tree.getClassBody() == null);
        made(tree);
        called(tree, element());
        return super.visitNewClass(tree, none);
    }

    @Override
    public Void visitNewArray(NewArrayTree tree, Void none) {
        made(tree);
        if (tree.getType() != null && !(tree.getType() instanceof ArrayTypeTree)) typeIsLeft(tree.getType());
        return super.visitNewArray(tree, none);
    }

    /** Rows are made in constructors alone and used again. */
    private void made(Tree tree) {
        MethodTree method = around();
        rule("12: made in no call", tree, method == null || method.getReturnType() == null);
    }

    private void called(Tree tree, Element method) {
        Element owner = method.getEnclosingElement();
        boolean isOwn = ownTypes.contains(owner.toString());
        String name = nameOf(method);
        rule("4: the library's " + name, tree, isOwn || LIBRARY.contains(name));
        MethodTree from = around();
        if (isOwn && from != null) {
            calls.computeIfAbsent(nameOf(trees.getElement(trees.getPath(unit, from))), key -> new TreeSet<>()).add(name);
        }
    }

    private static String nameOf(Element method) {
        return method.getEnclosingElement() + "." + method.getSimpleName();
    }

    // ---- what stands nowhere

    @Override
    public Void visitImport(ImportTree tree, Void none) {
        rule("4: no import", tree, false);
        return null;
    }

    @Override
    public Void visitThrow(ThrowTree tree, Void none) {
        rule("6: no throw", tree, false);
        return null;
    }

    @Override
    public Void visitTry(TryTree tree, Void none) {
        rule("6: no try", tree, false);
        return null;
    }

    @Override
    public Void visitSynchronized(SynchronizedTree tree, Void none) {
        rule("6: no synchronized", tree, false);
        return null;
    }

    @Override
    public Void visitAssert(AssertTree tree, Void none) {
        rule("6: no assert", tree, false);
        return null;
    }

    @Override
    public Void visitLambdaExpression(LambdaExpressionTree tree, Void none) {
        rule("2: no lambda", tree, false);
        return null;
    }

    @Override
    public Void visitMemberReference(MemberReferenceTree tree, Void none) {
        rule("2: no method reference", tree, false);
        return null;
    }

    @Override
    public Void visitInstanceOf(InstanceOfTree tree, Void none) {
        rule("6: no instanceof is needed", tree, false);
        return null;
    }

    @Override
    public Void visitTypeCast(TypeCastTree tree, Void none) {
        rule("6: casts of numbers alone", tree, NUMBERS.contains(tree.getType().toString()));
        return super.visitTypeCast(tree, none);
    }

    @Override
    public Void visitBinary(BinaryTree tree, Void none) {
        if (tree.getKind() == Tree.Kind.PLUS) rule("10: no + of texts", tree, type(tree.getLeftOperand()).getKind().isPrimitive());
        boolean divides = tree.getKind() == Tree.Kind.DIVIDE || tree.getKind() == Tree.Kind.REMAINDER;
        ExpressionTree by = tree.getRightOperand();
        if (divides) rule("7: the divisor is looked at", tree, isNumberButZero(by) || DIVISORS.contains(by.toString()));
        return super.visitBinary(tree, none);
    }

    @Override
    public Void visitCompoundAssignment(CompoundAssignmentTree tree, Void none) {
        boolean divides = Set.of(Tree.Kind.DIVIDE_ASSIGNMENT, Tree.Kind.REMAINDER_ASSIGNMENT).contains(tree.getKind());
        rule("7: the divisor is looked at", tree, !divides || isNumberButZero(tree.getExpression()));
        rule("10: no + of texts", tree, type(tree.getVariable()).getKind().isPrimitive());
        return super.visitCompoundAssignment(tree, none);
    }

    /** Looked through by hand: each is held above 0, or against 0, where it divides. */
    private static final Set<String> DIVISORS = Set.of("common", "b", "waterThere");

    private static boolean isNumberButZero(ExpressionTree tree) {
        return tree instanceof LiteralTree literal && literal.getValue() instanceof Number number && number.longValue() != 0;
    }

    // ---- loops

    @Override
    public Void visitForLoop(ForLoopTree tree, Void none) {
        hasAnEnd(tree, tree.getCondition());
        rule("9: a counter goes on", tree, !tree.getUpdate().isEmpty());
        return super.visitForLoop(tree, none);
    }

    @Override
    public Void visitWhileLoop(WhileLoopTree tree, Void none) {
        hasAnEnd(tree, tree.getCondition());
        return super.visitWhileLoop(tree, none);
    }

    @Override
    public Void visitDoWhileLoop(DoWhileLoopTree tree, Void none) {
        hasAnEnd(tree, tree.getCondition());
        return super.visitDoWhileLoop(tree, none);
    }

    private void hasAnEnd(Tree tree, ExpressionTree condition) {
        boolean compares = condition != null && condition.toString().matches("(?s).*[<>].*|.*has\\(.*");
        rule("9: the loop has a bound", tree, compares);
    }

    // ---- names that would bring in more of the library

    @Override
    public Void visitIdentifier(IdentifierTree tree, Void none) {
        nameIsLeft(tree);
        return super.visitIdentifier(tree, none);
    }

    @Override
    public Void visitMemberSelect(MemberSelectTree tree, Void none) {
        nameIsLeft(tree);
        return super.visitMemberSelect(tree, none);
    }

    private void nameIsLeft(Tree tree) {
        Element element = element();
        if (element == null || !element.getKind().isClass() && !element.getKind().isInterface()) return;
        TypeMirror type = element.asType();
        boolean isLeft = type.getKind() != TypeKind.DECLARED || ownTypes.contains(type.toString())
            || Set.of("java.lang.Math", "java.lang.Integer", "java.lang.String").contains(type.toString());
        rule("4: the library's " + type, tree, isLeft);
    }
}
