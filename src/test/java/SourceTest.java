import com.sun.source.tree.AssertTree;
import com.sun.source.tree.ClassTree;
import com.sun.source.tree.CompilationUnitTree;
import com.sun.source.tree.DoWhileLoopTree;
import com.sun.source.tree.EnhancedForLoopTree;
import com.sun.source.tree.ForLoopTree;
import com.sun.source.tree.ImportTree;
import com.sun.source.tree.InstanceOfTree;
import com.sun.source.tree.LambdaExpressionTree;
import com.sun.source.tree.LineMap;
import com.sun.source.tree.LiteralTree;
import com.sun.source.tree.MemberReferenceTree;
import com.sun.source.tree.MethodInvocationTree;
import com.sun.source.tree.MethodTree;
import com.sun.source.tree.NewArrayTree;
import com.sun.source.tree.NewClassTree;
import com.sun.source.tree.SynchronizedTree;
import com.sun.source.tree.ThrowTree;
import com.sun.source.tree.Tree;
import com.sun.source.tree.TryTree;
import com.sun.source.tree.TypeCastTree;
import com.sun.source.tree.WhileLoopTree;
import com.sun.source.util.JavacTask;
import com.sun.source.util.TreePath;
import com.sun.source.util.TreePathScanner;
import com.sun.source.util.Trees;
import java.nio.file.Path;
import java.util.ArrayDeque;
import java.util.Arrays;
import java.util.Deque;
import java.util.List;
import java.util.Map;
import java.util.Set;
import java.util.TreeMap;
import java.util.TreeSet;
import javax.lang.model.element.Element;
import javax.tools.JavaCompiler;
import javax.tools.StandardJavaFileManager;
import javax.tools.ToolProvider;

/** The rules of LANGUAGE.md that the tree of the source shows; above each part stands its rule. */
public final class SourceTest extends TreePathScanner<Void, Void> {
    private static final List<String> LIBRARY = Arrays.asList("Math.max", "Math.min", "Math.abs",
            "Math.floorMod", "Arrays.fill", "System.arraycopy", "Object.<init>");
    private static final int MOST_LINES = 60;
    private static final int MOST_DEPTH = 8;

    private final Trees trees;
    private final CompilationUnitTree file;
    private final LineMap lines;
    private final Map<String, Set<String>> calls = new TreeMap<>();
    private String method = "";

    private SourceTest(Trees trees, CompilationUnitTree file) {
        this.trees = trees;
        this.file = file;
        this.lines = file.getLineMap();
    }

    public static void main(String[] args) throws Exception {
        JavaCompiler compiler = ToolProvider.getSystemJavaCompiler();
        StandardJavaFileManager files = compiler.getStandardFileManager(null, null, null);
        JavacTask task = (JavacTask) compiler.getTask(null, files, null, List.of("-proc:none"),
                null, files.getJavaFileObjects(Path.of("src/main/java/LimbScore.java")));
        CompilationUnitTree file = task.parse().iterator().next();
        task.analyze();
        SourceTest test = new SourceTest(Trees.instance(task), file);
        Due.is("package line", file.getPackageName() == null ? 0 : 1, 0);
        test.scan(file, null);
        test.depths();
        Due.end();
    }

    private void never(String what, Tree tree) {
        long position = trees.getSourcePositions().getStartPosition(file, tree);
        Due.is("line " + lines.getLineNumber(position) + ": " + what, 1, 0);
    }

    private String nameOf(Element element) {
        return element.getEnclosingElement().getSimpleName() + "." + element.getSimpleName();
    }

    // 2: No local or anonymous class, no lambda, no method reference.
    @Override
    public Void visitClass(ClassTree tree, Void none) {
        Tree.Kind around = getCurrentPath().getParentPath().getLeaf().getKind();
        if (around != Tree.Kind.CLASS && around != Tree.Kind.COMPILATION_UNIT) {
            never("a local or anonymous class", tree);
        }
        return super.visitClass(tree, none);
    }

    @Override
    public Void visitLambdaExpression(LambdaExpressionTree tree, Void none) {
        never("a lambda", tree);
        return null;
    }

    @Override
    public Void visitMemberReference(MemberReferenceTree tree, Void none) {
        never("a method reference", tree);
        return null;
    }

    // 4: The library: only what stands here.
    @Override
    public Void visitImport(ImportTree tree, Void none) {
        Due.is("import " + tree.getQualifiedIdentifier(),
                tree.getQualifiedIdentifier().toString().equals("java.util.Arrays") ? 1 : 0, 1);
        return null;
    }

    @Override
    public Void visitMethodInvocation(MethodInvocationTree tree, Void none) {
        Element called = trees.getElement(new TreePath(getCurrentPath(), tree.getMethodSelect()));
        TreePath source = trees.getPath(called);
        if (source == null) {
            Due.is("the library's " + nameOf(called), LIBRARY.contains(nameOf(called)) ? 1 : 0, 1);
        } else {
            calls.computeIfAbsent(method, name -> new TreeSet<>()).add(nameOf(called));
        }
        return super.visitMethodInvocation(tree, none);
    }

    // 6: No throw, try, catch, synchronized, assert. (The class needs no instanceof and no null.)
    @Override
    public Void visitThrow(ThrowTree tree, Void none) {
        never("throw", tree);
        return null;
    }

    @Override
    public Void visitTry(TryTree tree, Void none) {
        never("try", tree);
        return null;
    }

    @Override
    public Void visitSynchronized(SynchronizedTree tree, Void none) {
        never("synchronized", tree);
        return null;
    }

    @Override
    public Void visitAssert(AssertTree tree, Void none) {
        never("assert", tree);
        return null;
    }

    @Override
    public Void visitInstanceOf(InstanceOfTree tree, Void none) {
        never("instanceof", tree);
        return null;
    }

    @Override
    public Void visitTypeCast(TypeCastTree tree, Void none) {
        never("a cast", tree);
        return null;
    }

    @Override
    public Void visitLiteral(LiteralTree tree, Void none) {
        if (tree.getKind() == Tree.Kind.NULL_LITERAL || tree.getKind() == Tree.Kind.STRING_LITERAL) {
            never("null or a text", tree);
        }
        return null;
    }

    // 7: A divisor is looked at before it divides: here all divisors are numbers written out.
    @Override
    public Void visitBinary(com.sun.source.tree.BinaryTree tree, Void none) {
        boolean divides = tree.getKind() == Tree.Kind.DIVIDE
                || tree.getKind() == Tree.Kind.REMAINDER;
        if (divides && tree.getRightOperand().getKind() != Tree.Kind.INT_LITERAL) {
            never("a divisor", tree);
        }
        return super.visitBinary(tree, none);
    }

    // 9: Every loop has an end that can be seen from its own lines.
    @Override
    public Void visitForLoop(ForLoopTree tree, Void none) {
        if (tree.getCondition() == null || tree.getUpdate().size() != 1) {
            never("a for without a bound or a step", tree);
        }
        return super.visitForLoop(tree, none);
    }

    @Override
    public Void visitWhileLoop(WhileLoopTree tree, Void none) {
        String counter = tree.getCondition().toString().replaceAll("^\\((\\w+) > 0 && .*", "$1");
        if (!tree.getStatement().toString().contains(counter + "--;")) {
            never("a while without a counter", tree);
        }
        return super.visitWhileLoop(tree, none);
    }

    @Override
    public Void visitDoWhileLoop(DoWhileLoopTree tree, Void none) {
        never("a do", tree);
        return null;
    }

    @Override
    public Void visitEnhancedForLoop(EnhancedForLoopTree tree, Void none) {
        never("a for over a list", tree);
        return null;
    }

    // 11: Methods stay short (some sixty lines).
    @Override
    public Void visitMethod(MethodTree tree, Void none) {
        Element element = trees.getElement(getCurrentPath());
        method = nameOf(element);
        calls.computeIfAbsent(method, name -> new TreeSet<>());
        long start = trees.getSourcePositions().getStartPosition(file, tree);
        long end = trees.getSourcePositions().getEndPosition(file, tree);
        long length = lines.getLineNumber(Math.max(start, end)) - lines.getLineNumber(start) + 1;
        Due.is(method + " has " + length + " lines", length <= MOST_LINES ? 1 : 0, 1);
        super.visitMethod(tree, none);
        method = "";
        return null;
    }

    // 12: What a run makes is counted: rows are made with the object, no call makes one.
    @Override
    public Void visitNewClass(NewClassTree tree, Void none) {
        if (!method.isEmpty()) {
            never(method + " makes an object", tree);
        }
        return super.visitNewClass(tree, none);
    }

    @Override
    public Void visitNewArray(NewArrayTree tree, Void none) {
        if (!method.isEmpty()) {
            never(method + " makes an array", tree);
        }
        return super.visitNewArray(tree, none);
    }

    // 8 and 11: No method calls itself again, and calls go at most eight deep.
    private void depths() {
        Due.is("methods are found", calls.size() > 80 ? 1 : 0, 1);
        for (String name : calls.keySet()) {
            int depth = depth(name, new ArrayDeque<>());
            Due.is(name + " goes " + depth + " deep", depth <= MOST_DEPTH ? 1 : 0, 1);
        }
    }

    private int depth(String name, Deque<String> open) {
        if (open.contains(name)) {
            Due.is(name + " calls itself again: " + open, 1, 0);
            return 0;
        }
        open.push(name);
        int deepest = 0;
        for (String called : calls.get(name)) {
            deepest = Math.max(deepest, depth(called, open));
        }
        open.pop();
        return 1 + deepest;
    }
}
