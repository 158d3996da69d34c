import com.sun.source.tree.AssertTree;
import com.sun.source.tree.ClassTree;
import com.sun.source.tree.CompilationUnitTree;
import com.sun.source.tree.DoWhileLoopTree;
import com.sun.source.tree.EnhancedForLoopTree;
import com.sun.source.tree.ForLoopTree;
import com.sun.source.tree.ImportTree;
import com.sun.source.tree.LambdaExpressionTree;
import com.sun.source.tree.MemberReferenceTree;
import com.sun.source.tree.MethodInvocationTree;
import com.sun.source.tree.MethodTree;
import com.sun.source.tree.NewArrayTree;
import com.sun.source.tree.NewClassTree;
import com.sun.source.tree.SynchronizedTree;
import com.sun.source.tree.ThrowTree;
import com.sun.source.tree.Tree;
import com.sun.source.tree.TryTree;
import com.sun.source.tree.VariableTree;
import com.sun.source.tree.WhileLoopTree;
import com.sun.source.util.JavacTask;
import com.sun.source.util.SourcePositions;
import com.sun.source.util.TreePathScanner;
import com.sun.source.util.Trees;
import java.io.File;
import java.io.IOException;
import java.util.HashMap;
import java.util.HashSet;
import java.util.LinkedHashSet;
import java.util.List;
import java.util.Map;
import java.util.Set;
import javax.lang.model.element.Element;
import javax.lang.model.element.ElementKind;
import javax.lang.model.element.Modifier;
import javax.tools.JavaCompiler;
import javax.tools.StandardJavaFileManager;
import javax.tools.ToolProvider;

/** What of LANGUAGE.md can be seen in the source: its words, sizes, depths and loops. */
public final class LanguageTest extends TreePathScanner<Void, Void> {
    private static final File SOURCE = new File("src/main/java/ButterChurn.java");
    private static final int MOST_LINES = 60;
    private static final Set<String> LIBRARY = Set.of("length", "charAt", "clone", "arraycopy", "floorDiv",
            "min", "max", "bitCount", "<init>");

    private final Trees trees;
    private final SourcePositions positions;
    private final CompilationUnitTree unit;
    private final Map<Element, Set<Element>> calls = new HashMap<>();
    private final Set<String> publicNames = new HashSet<>();
    private final Set<String> privateNames = new HashSet<>();
    private Element method;
    private int classes;
    private int loops;

    private LanguageTest(Trees trees, CompilationUnitTree unit) {
        this.trees = trees;
        this.unit = unit;
        positions = trees.getSourcePositions();
    }

    public static void main(String[] args) throws IOException {
        JavaCompiler compiler = ToolProvider.getSystemJavaCompiler();
        try (StandardJavaFileManager files = compiler.getStandardFileManager(null, null, null)) {
            JavacTask task = (JavacTask) compiler.getTask(null, files, null,
                    List.of("-proc:none"), null, files.getJavaFileObjects(SOURCE));
            CompilationUnitTree unit = task.parse().iterator().next();
            task.analyze();
            LanguageTest test = new LanguageTest(Trees.instance(task), unit);
            test.scan(unit, null);
            test.checkWhole();
        }
        Due.end("LanguageTest");
    }

    private void checkWhole() {
        must("no package line", unit.getPackageName() == null);
        must("some twelve classes at most, here " + classes, classes <= 12);
        must("there are loops, here " + loops, loops > 0);
        for (String name : privateNames) {
            must("the private method " + name + " bears a public one's name", !publicNames.contains(name));
        }
        for (Element from : calls.keySet()) {
            int deep = depth(from, new LinkedHashSet<>());
            must("calls from " + from + " go " + deep + " deep", deep <= 8);
        }
    }

    private int depth(Element from, Set<Element> above) {
        if (!above.add(from)) {
            must("no recursion in " + from, false);
            return 99;
        }
        int deepest = 0;
        for (Element to : calls.getOrDefault(from, Set.of())) {
            deepest = Math.max(deepest, depth(to, above));
        }
        above.remove(from);
        return deepest + 1;
    }

    private void must(String what, boolean holds) {
        Due.is(what, holds ? 1 : 0, 1);
    }

    private void never(String what, Tree tree) {
        must(what + " in line " + line(positions.getStartPosition(unit, tree)), false);
    }

    private long line(long position) {
        return unit.getLineMap().getLineNumber(position);
    }

    @Override
    public Void visitClass(ClassTree tree, Void none) {
        classes++;
        Set<Modifier> flags = tree.getModifiers().getFlags();
        String name = tree.getSimpleName().toString();
        boolean outer = getCurrentPath().getParentPath().getLeaf() == unit;
        must(name + " is a class of its own", !name.isEmpty());
        must(name + " is as rule 1 wants it", flags.contains(outer ? Modifier.PUBLIC : Modifier.STATIC)
                && flags.contains(Modifier.FINAL) && (outer || !flags.contains(Modifier.PUBLIC)));
        int fields = 0;
        for (Tree member : tree.getMembers()) {
            if (member instanceof VariableTree field) {
                boolean fixed = field.getModifiers().getFlags().contains(Modifier.STATIC);
                must("static " + field.getName() + " is final",
                        !fixed || field.getModifiers().getFlags().contains(Modifier.FINAL));
                fields += fixed ? 0 : 1;
            }
            must("no initialiser block in " + name, member.getKind() != Tree.Kind.BLOCK);
        }
        must(name + " has some twenty fields at most", fields <= 20);
        return super.visitClass(tree, none);
    }

    @Override
    public Void visitMethod(MethodTree tree, Void none) {
        Element before = method;
        method = trees.getElement(getCurrentPath());
        calls.putIfAbsent(method, new LinkedHashSet<>());
        long lines = line(positions.getEndPosition(unit, tree)) - line(positions.getStartPosition(unit, tree)) + 1;
        boolean made = positions.getEndPosition(unit, tree) < 0 || method.getKind() == ElementKind.CONSTRUCTOR;
        must(tree.getName() + " has seven parameters at most", tree.getParameters().size() <= 7);
        must(tree.getName() + " has " + lines + " lines", made || lines <= MOST_LINES);
        if (tree.getModifiers().getFlags().contains(Modifier.PUBLIC)) {
            publicNames.add(tree.getName().toString());
        } else if (!made) {
            privateNames.add(tree.getName().toString());
        }
        super.visitMethod(tree, none);
        method = before;
        return null;
    }

    @Override
    public Void visitMethodInvocation(MethodInvocationTree tree, Void none) {
        Element called = trees.getElement(getCurrentPath());
        String name = called.getSimpleName().toString();
        String home = called.getEnclosingElement().toString();
        boolean own = home.startsWith("ButterChurn");
        must(home + "." + name + " is in the library that is left", own || LIBRARY.contains(name));
        if (method != null) {
            calls.get(method).add(called);
        }
        return super.visitMethodInvocation(tree, none);
    }

    @Override
    public Void visitNewClass(NewClassTree tree, Void none) {
        if (method != null || tree.getClassBody() != null) {
            never("an object made outside a field's own line", tree);
        }
        return super.visitNewClass(tree, none);
    }

    @Override
    public Void visitNewArray(NewArrayTree tree, Void none) {
        if (method != null) {
            never("a row made by a call", tree);
        }
        return super.visitNewArray(tree, none);
    }

    @Override
    public Void visitForLoop(ForLoopTree tree, Void none) {
        loops++;
        must("the loop in line " + line(positions.getStartPosition(unit, tree)) + " counts to a bound",
                tree.getCondition() != null && !tree.getUpdate().isEmpty());
        return super.visitForLoop(tree, none);
    }

    @Override
    public Void visitEnhancedForLoop(EnhancedForLoopTree tree, Void none) {
        loops++;
        return super.visitEnhancedForLoop(tree, none);
    }

    @Override
    public Void visitWhileLoop(WhileLoopTree tree, Void none) {
        never("a loop without a counter", tree);
        return null;
    }

    @Override
    public Void visitDoWhileLoop(DoWhileLoopTree tree, Void none) {
        never("a loop without a counter", tree);
        return null;
    }

    @Override
    public Void visitThrow(ThrowTree tree, Void none) {
        never("throw", tree);
        return null;
    }

    @Override
    public Void visitTry(TryTree tree, Void none) {
        never("try", tree);
        return null;
    }

    @Override
    public Void visitAssert(AssertTree tree, Void none) {
        never("assert", tree);
        return null;
    }

    @Override
    public Void visitSynchronized(SynchronizedTree tree, Void none) {
        never("synchronized", tree);
        return null;
    }

    @Override
    public Void visitLambdaExpression(LambdaExpressionTree tree, Void none) {
        never("a lambda", tree);
        return null;
    }

    @Override
    public Void visitMemberReference(MemberReferenceTree tree, Void none) {
        never("a method reference", tree);
        return null;
    }

    @Override
    public Void visitImport(ImportTree tree, Void none) {
        never("an import", tree);
        return null;
    }
}
