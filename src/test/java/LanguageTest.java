import com.sun.source.tree.AssertTree;
import com.sun.source.tree.BinaryTree;
import com.sun.source.tree.BlockTree;
import com.sun.source.tree.CatchTree;
import com.sun.source.tree.ClassTree;
import com.sun.source.tree.CompilationUnitTree;
import com.sun.source.tree.DoWhileLoopTree;
import com.sun.source.tree.EnhancedForLoopTree;
import com.sun.source.tree.ImportTree;
import com.sun.source.tree.InstanceOfTree;
import com.sun.source.tree.LambdaExpressionTree;
import com.sun.source.tree.MemberReferenceTree;
import com.sun.source.tree.MethodInvocationTree;
import com.sun.source.tree.MethodTree;
import com.sun.source.tree.NewArrayTree;
import com.sun.source.tree.NewClassTree;
import com.sun.source.tree.SynchronizedTree;
import com.sun.source.tree.ThrowTree;
import com.sun.source.tree.Tree;
import com.sun.source.tree.TryTree;
import com.sun.source.tree.TypeCastTree;
import com.sun.source.tree.VariableTree;
import com.sun.source.util.JavacTask;
import com.sun.source.util.TreePath;
import com.sun.source.util.TreePathScanner;
import com.sun.source.util.Trees;
import java.io.IOException;
import java.nio.file.Path;
import java.util.ArrayList;
import java.util.HashSet;
import java.util.LinkedHashMap;
import java.util.LinkedHashSet;
import java.util.List;
import java.util.Map;
import java.util.Set;
import javax.lang.model.element.Element;
import javax.lang.model.element.ElementKind;
import javax.lang.model.element.Modifier;
import javax.tools.JavaCompiler;
import javax.tools.StandardJavaFileManager;
import javax.tools.ToolProvider;

/** The rules of LANGUAGE.md, by the compiler's own tree of the program: which calls, types and forms it uses, and how deep. */
final class LanguageTest extends TreePathScanner<Void, Void> {
    private static final Path SOURCE = Path.of("src/main/java/WordSeats.java");
    private static final int MOST_LINES = 60;
    private static final int MOST_PARAMETERS = 7;
    private static final int MOST_DEPTH = 8;
    /** Of rule 4, what the program needs. */
    private static final Set<String> LIBRARY = Set.of("System.arraycopy", "Arrays.fill", "Integer.bitCount", "Math.min", "Math.max",
        "String.length", "String.charAt");
    private static final Set<String> TYPES = Set.of("int", "long", "byte", "boolean", "String", "void", "int[]", "long[]", "byte[]",
        "boolean[]");
    private static final Set<String> NUMBERS = Set.of("byte", "short", "int", "long");
    private static final Due DUE = new Due("LanguageTest");

    private final Trees trees;
    private final CompilationUnitTree unit;
    private final Set<String> own = new HashSet<>();
    private final Map<Element, Set<Element>> calls = new LinkedHashMap<>();
    private Element within;

    private LanguageTest(Trees trees, CompilationUnitTree unit) {
        this.trees = trees;
        this.unit = unit;
    }

    public static void main(String[] args) throws IOException {
        JavaCompiler compiler = ToolProvider.getSystemJavaCompiler();
        try (StandardJavaFileManager files = compiler.getStandardFileManager(null, null, null)) {
            JavacTask task = (JavacTask) compiler.getTask(null, files, null, List.of("--release", "17", "-proc:none"), null,
                files.getJavaFileObjects(SOURCE));
            CompilationUnitTree unit = task.parse().iterator().next();
            task.analyze();
            LanguageTest test = new LanguageTest(Trees.instance(task), unit);
            test.nameOwnClasses();
            test.scan(unit, null);
            test.lookDown();
            DUE.is("a package", 1, unit.getPackageName() == null ? 1 : 0);
        }
        DUE.close();
    }

    private void nameOwnClasses() {
        ClassTree face = (ClassTree) unit.getTypeDecls().get(0);
        DUE.is("classes side by side", 1, unit.getTypeDecls().size());
        own.add(face.getSimpleName().toString());
        for (Tree member : face.getMembers()) {
            if (member instanceof ClassTree inside) own.add(inside.getSimpleName().toString());
        }
        DUE.is("rule 11: at most twelve classes", 1, own.size() <= 12 ? 1 : 0);
    }

    private void say(int rule, String what, Tree where) {
        long line = unit.getLineMap().getLineNumber(trees.getSourcePositions().getStartPosition(unit, where));
        DUE.is("rule " + rule + ", line " + line + ": " + what, 0, 1);
    }

    private void ask(boolean good, int rule, String what, Tree where) {
        DUE.is(what, 0, 0);
        if (!good) say(rule, what, where);
    }

    // what may stand, and where

    @Override
    public Void visitImport(ImportTree tree, Void none) {
        ask(tree.getQualifiedIdentifier().toString().equals("java.util.Arrays"), 4, "import " + tree.getQualifiedIdentifier(), tree);
        return super.visitImport(tree, none);
    }

    @Override
    public Void visitClass(ClassTree tree, Void none) {
        Element element = trees.getElement(getCurrentPath());
        ask(own.contains(tree.getSimpleName().toString()), 2, "a class elsewhere: " + tree.getSimpleName(), tree);
        if (element.getEnclosingElement().getKind() == ElementKind.CLASS) {
            ask(element.getModifiers().contains(Modifier.STATIC), 2, "not static: " + tree.getSimpleName(), tree);
            ask(!element.getModifiers().contains(Modifier.PUBLIC), 1, "public: " + tree.getSimpleName(), tree);
        }
        long fields = element.getEnclosedElements().stream()
            .filter(e -> e.getKind() == ElementKind.FIELD && !e.getModifiers().contains(Modifier.STATIC)).count();
        ask(fields <= 20, 11, fields + " fields in " + tree.getSimpleName(), tree);
        return super.visitClass(tree, none);
    }

    @Override
    public Void visitVariable(VariableTree tree, Void none) {
        String type = tree.getType().toString();
        String item = type.endsWith("[]") ? type.substring(0, type.length() - 2) : type;
        ask(TYPES.contains(type) || own.contains(item), 3, "a " + type, tree);
        Set<Modifier> modifiers = tree.getModifiers().getFlags();
        if (modifiers.contains(Modifier.STATIC)) {
            ask(modifiers.contains(Modifier.FINAL), 5, "not final: " + tree.getName(), tree);
            ask(Set.of("int", "long", "boolean", "char", "String", "int[]").contains(type), 5, "no constant: " + type, tree);
        }
        return super.visitVariable(tree, none);
    }

    @Override
    public Void visitMethod(MethodTree tree, Void none) {
        within = trees.getElement(getCurrentPath());
        calls.computeIfAbsent(within, w -> new LinkedHashSet<>());
        ask(tree.getParameters().size() <= MOST_PARAMETERS, 11, "parameters of " + tree.getName(), tree);
        ask(lines(tree) <= MOST_LINES, 11, lines(tree) + " lines of " + tree.getName(), tree);
        String answer = String.valueOf(tree.getReturnType());
        ask(tree.getReturnType() == null || TYPES.contains(answer), 3, "answers a " + answer, tree);
        ask(tree.getThrows().isEmpty(), 6, "throws", tree);
        super.visitMethod(tree, none);
        within = null;
        return null;
    }

    private long lines(Tree tree) {
        return unit.getLineMap().getLineNumber(trees.getSourcePositions().getEndPosition(unit, tree))
            - unit.getLineMap().getLineNumber(trees.getSourcePositions().getStartPosition(unit, tree)) + 1;
    }

    @Override
    public Void visitMethodInvocation(MethodInvocationTree tree, Void none) {
        Element called = trees.getElement(new TreePath(getCurrentPath(), tree.getMethodSelect()));
        String owner = called.getEnclosingElement().getSimpleName().toString();
        boolean isOwn = own.contains(owner);
        boolean isSuper = called.getKind() == ElementKind.CONSTRUCTOR;
        String name = owner + "." + called.getSimpleName();
        ask(isOwn || isSuper || LIBRARY.contains(name), 4, "calls " + name, tree);
        if (!isSuper && within != null) calls.get(within).add(called);
        return super.visitMethodInvocation(tree, none);
    }

    /** Rows are made once, with the object: what a run makes is counted. */
    @Override
    public Void visitNewClass(NewClassTree tree, Void none) {
        ask(tree.getClassBody() == null, 2, "a class without a name", tree);
        ask(own.contains(tree.getIdentifier().toString()), 3, "makes a " + tree.getIdentifier(), tree);
        ask(within == null || within.getKind() == ElementKind.CONSTRUCTOR, 12, "made in a call: " + tree, tree);
        return super.visitNewClass(tree, none);
    }

    @Override
    public Void visitNewArray(NewArrayTree tree, Void none) {
        ask(within == null || within.getKind() == ElementKind.CONSTRUCTOR, 12, "made in a call: " + tree, tree);
        ask(tree.getDimensions().size() <= 1, 3, "of two dimensions: " + tree, tree);
        return super.visitNewArray(tree, none);
    }

    // what may not stand at all

    @Override
    public Void visitLambdaExpression(LambdaExpressionTree tree, Void none) {
        say(2, "a lambda", tree);
        return null;
    }

    @Override
    public Void visitMemberReference(MemberReferenceTree tree, Void none) {
        say(2, "a method reference", tree);
        return null;
    }

    @Override
    public Void visitThrow(ThrowTree tree, Void none) {
        say(6, "throw", tree);
        return null;
    }

    @Override
    public Void visitTry(TryTree tree, Void none) {
        say(6, "try", tree);
        return null;
    }

    @Override
    public Void visitCatch(CatchTree tree, Void none) {
        say(6, "catch", tree);
        return null;
    }

    @Override
    public Void visitSynchronized(SynchronizedTree tree, Void none) {
        say(6, "synchronized", tree);
        return null;
    }

    @Override
    public Void visitAssert(AssertTree tree, Void none) {
        say(6, "assert", tree);
        return null;
    }

    /** The program has no kinds to tell apart, so that a cast goes from number to number. */
    @Override
    public Void visitTypeCast(TypeCastTree tree, Void none) {
        ask(NUMBERS.contains(tree.getType().toString()), 6, "a cast to " + tree.getType(), tree);
        return super.visitTypeCast(tree, none);
    }

    /** Texts are neither joined by + nor held against one another by ==; nor are objects. */
    @Override
    public Void visitBinary(BinaryTree tree, Void none) {
        for (Tree side : List.of(tree.getLeftOperand(), tree.getRightOperand())) {
            ask(trees.getTypeMirror(new TreePath(getCurrentPath(), side)).getKind().isPrimitive(), 10, "of no numbers: " + tree, tree);
        }
        return super.visitBinary(tree, none);
    }

    @Override
    public Void visitBlock(BlockTree tree, Void none) {
        ask(!tree.isStatic() && !(getCurrentPath().getParentPath().getLeaf() instanceof ClassTree), 5, "an initialiser block", tree);
        return super.visitBlock(tree, none);
    }

    @Override
    public Void visitInstanceOf(InstanceOfTree tree, Void none) {
        say(6, "instanceof", tree);
        return null;
    }

    @Override
    public Void visitEnhancedForLoop(EnhancedForLoopTree tree, Void none) {
        say(12, "a loop that is not by index", tree);
        return null;
    }

    @Override
    public Void visitDoWhileLoop(DoWhileLoopTree tree, Void none) {
        say(9, "a loop whose end stands behind it", tree);
        return null;
    }

    // how deep calls go

    private void lookDown() {
        DUE.is("methods found", 1, calls.size() > 150 ? 1 : 0);
        int deepest = 0;
        for (Element method : calls.keySet()) {
            deepest = Math.max(deepest, depth(method, new ArrayList<>()));
        }
        System.out.println(calls.size() + " methods, calls go " + deepest + " deep");
        DUE.is("rule 11: calls go at most eight deep", 1, deepest <= MOST_DEPTH ? 1 : 0);
    }

    private int depth(Element method, List<Element> open) {
        if (open.contains(method)) {
            DUE.is("rule 8: calls itself: " + method, 0, 1);
            return 0;
        }
        open.add(method);
        int below = 0;
        for (Element called : calls.getOrDefault(method, Set.of())) {
            below = Math.max(below, depth(called, open));
        }
        open.remove(method);
        return below + 1;
    }
}
