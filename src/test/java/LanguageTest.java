import com.sun.source.tree.ArrayTypeTree;
import com.sun.source.tree.BinaryTree;
import com.sun.source.tree.BlockTree;
import com.sun.source.tree.ClassTree;
import com.sun.source.tree.CompilationUnitTree;
import com.sun.source.tree.DoWhileLoopTree;
import com.sun.source.tree.ForLoopTree;
import com.sun.source.tree.ImportTree;
import com.sun.source.tree.LambdaExpressionTree;
import com.sun.source.tree.LineMap;
import com.sun.source.tree.MemberReferenceTree;
import com.sun.source.tree.MethodInvocationTree;
import com.sun.source.tree.MethodTree;
import com.sun.source.tree.NewArrayTree;
import com.sun.source.tree.NewClassTree;
import com.sun.source.tree.SynchronizedTree;
import com.sun.source.tree.ThrowTree;
import com.sun.source.tree.Tree;
import com.sun.source.tree.TryTree;
import com.sun.source.tree.TypeCastTree;
import com.sun.source.tree.VariableTree;
import com.sun.source.tree.WhileLoopTree;
import com.sun.source.util.JavacTask;
import com.sun.source.util.SourcePositions;
import com.sun.source.util.TreePathScanner;
import com.sun.source.util.Trees;
import java.io.IOException;
import java.nio.file.Path;
import java.util.ArrayDeque;
import java.util.HashMap;
import java.util.LinkedHashSet;
import java.util.List;
import java.util.Map;
import java.util.Set;
import java.util.TreeMap;
import javax.lang.model.element.Element;
import javax.lang.model.element.Modifier;
import javax.lang.model.type.TypeKind;
import javax.tools.JavaCompiler;
import javax.tools.StandardJavaFileManager;
import javax.tools.ToolProvider;

/** Rules of LANGUAGE.md that are seen in the compiler's tree of the class. Argument: the source. */
public final class LanguageTest extends TreePathScanner<Void, Void> {
    /** What the class uses of the library, all of it in rule 4. */
    private static final Set<String> LIBRARY = Set.of("String.length", "String.charAt", "String.indexOf", "Math.min",
            "Math.max", "Object.<init>");
    private static final Set<String> STATIC_TYPES = Set.of("int", "long", "boolean", "char", "String");
    /** These read texts, whose NESTS are at most 14; all other methods come back without calling themselves. */
    private static final Set<String> READERS = Set.of("Expressions", "Statements");
    private static final int LONGEST_METHOD = 60;
    private static final int MOST_PARAMETERS = 7;
    private static final int DEEPEST = 8;

    private final Trees trees;
    private final CompilationUnitTree unit;
    private final Map<String, Set<String>> calls = new TreeMap<>();
    private final Map<String, Integer> depths = new HashMap<>();
    private String method = "";

    private LanguageTest(Trees trees, CompilationUnitTree unit) {
        this.trees = trees;
        this.unit = unit;
    }

    public static void main(String[] args) throws IOException {
        JavaCompiler compiler = ToolProvider.getSystemJavaCompiler();
        try (StandardJavaFileManager files = compiler.getStandardFileManager(null, null, null)) {
            JavacTask task = (JavacTask) compiler.getTask(null, files, null, List.of("--release", "17"), null,
                    files.getJavaFileObjects(Path.of(args[0])));
            CompilationUnitTree unit = task.parse().iterator().next();
            task.analyze();
            LanguageTest test = new LanguageTest(Trees.instance(task), unit);
            test.scan(unit, null);
            test.callsEnd();
        }
        Check.finish("LanguageTest");
    }

    private long line(long position) {
        LineMap lines = unit.getLineMap();
        return lines.getLineNumber(position);
    }

    private void never(String rule, Tree tree) {
        long at = line(trees.getSourcePositions().getStartPosition(unit, tree));
        Check.due("line " + at + ", " + rule, true, false);
    }

    private static String nameOf(Element element) {
        return element.getEnclosingElement().getSimpleName() + "." + element.getSimpleName();
    }

    // ---- rules 1 to 6

    @Override
    public Void visitImport(ImportTree tree, Void none) {
        never("rule 4: an import", tree);
        return null;
    }

    @Override
    public Void visitLambdaExpression(LambdaExpressionTree tree, Void none) {
        never("rule 2: a lambda", tree);
        return super.visitLambdaExpression(tree, none);
    }

    @Override
    public Void visitMemberReference(MemberReferenceTree tree, Void none) {
        never("rule 2: a method reference", tree);
        return super.visitMemberReference(tree, none);
    }

    @Override
    public Void visitArrayType(ArrayTypeTree tree, Void none) {
        Check.due("rule 3: " + tree + " has one dimension", tree.getType() instanceof ArrayTypeTree, false);
        return super.visitArrayType(tree, none);
    }

    @Override
    public Void visitVariable(VariableTree tree, Void none) {
        Set<Modifier> flags = tree.getModifiers().getFlags();
        if (flags.contains(Modifier.STATIC)) {
            boolean constant = flags.contains(Modifier.FINAL) && STATIC_TYPES.contains(tree.getType().toString());
            Check.due("rule 5: static " + tree.getName() + " is a constant", constant, true);
        }
        return super.visitVariable(tree, none);
    }

    @Override
    public Void visitClass(ClassTree tree, Void none) {
        for (Tree member : tree.getMembers()) {
            Check.due("rule 5: no initialiser block in " + tree.getSimpleName(), member instanceof BlockTree, false);
        }
        return super.visitClass(tree, none);
    }

    @Override
    public Void visitTry(TryTree tree, Void none) {
        never("rule 6: the class has nothing to catch", tree);
        return super.visitTry(tree, none);
    }

    @Override
    public Void visitThrow(ThrowTree tree, Void none) {
        Check.due("rule 6: a throw in " + method, method.equals("LockKeepers.run"), true);
        Check.due("rule 6: " + tree, tree.getExpression() instanceof NewClassTree, true);
        return super.visitThrow(tree, none);
    }

    @Override
    public Void visitSynchronized(SynchronizedTree tree, Void none) {
        never("rule 6: synchronized", tree);
        return super.visitSynchronized(tree, none);
    }

    @Override
    public Void visitTypeCast(TypeCastTree tree, Void none) {
        boolean number = trees.getTypeMirror(getCurrentPath()).getKind().isPrimitive();
        Check.due("rule 6: the cast " + tree + " is one of numbers", number, true);
        return super.visitTypeCast(tree, none);
    }

    // ---- rules 9 and 10

    private void loop(Tree tree, Tree condition) {
        boolean asks = condition != null && condition.toString().matches("(?s).*[<>].*");
        if (!asks) {
            never("rule 9: a loop that compares nothing with a bound", tree);
        }
    }

    @Override
    public Void visitForLoop(ForLoopTree tree, Void none) {
        loop(tree, tree.getCondition());
        return super.visitForLoop(tree, none);
    }

    @Override
    public Void visitWhileLoop(WhileLoopTree tree, Void none) {
        loop(tree, tree.getCondition());
        return super.visitWhileLoop(tree, none);
    }

    @Override
    public Void visitDoWhileLoop(DoWhileLoopTree tree, Void none) {
        loop(tree, tree.getCondition());
        return super.visitDoWhileLoop(tree, none);
    }

    @Override
    public Void visitBinary(BinaryTree tree, Void none) {
        boolean text = trees.getTypeMirror(getCurrentPath()).getKind() == TypeKind.DECLARED;
        Check.due("rule 10: " + tree + " joins texts", text, false);
        return super.visitBinary(tree, none);
    }

    // ---- rules 8, 11 and 12

    @Override
    public Void visitMethod(MethodTree tree, Void none) {
        String outside = method;
        method = nameOf(trees.getElement(getCurrentPath()));
        calls.computeIfAbsent(method, name -> new LinkedHashSet<>());
        Check.due("rule 11: parameters of " + method, tree.getParameters().size() <= MOST_PARAMETERS, true);
        SourcePositions positions = trees.getSourcePositions();
        long first = line(positions.getStartPosition(unit, tree));
        // a constructor that is not written has no end of its own
        long last = Math.max(first, line(Math.max(0, positions.getEndPosition(unit, tree))));
        Check.due("rule 11: lines of " + method, last - first < LONGEST_METHOD, true);
        super.visitMethod(tree, none);
        method = outside;
        return null;
    }

    @Override
    public Void visitMethodInvocation(MethodInvocationTree tree, Void none) {
        used(trees.getElement(getCurrentPath()));
        return super.visitMethodInvocation(tree, none);
    }

    @Override
    public Void visitNewClass(NewClassTree tree, Void none) {
        made();
        Element constructor = trees.getElement(getCurrentPath());
        boolean thrown = getCurrentPath().getParentPath().getLeaf() instanceof ThrowTree;
        if (!thrown) {
            used(constructor);
        }
        return super.visitNewClass(tree, none);
    }

    @Override
    public Void visitNewArray(NewArrayTree tree, Void none) {
        made();
        return super.visitNewArray(tree, none);
    }

    /** All calls of a run live in one room, so only a new object, a read() and a throw make anything. */
    private void made() {
        boolean constructor = method.isEmpty() || method.endsWith("<init>");
        boolean known = constructor || method.equals("LockKeepers.read") || method.equals("LockKeepers.run");
        Check.due("rule 12: " + method + " makes something", known, true);
    }

    private void used(Element element) {
        String name = nameOf(element);
        boolean own = trees.getPath(element) != null;
        if (!own) {
            Check.due("rule 4: " + name, LIBRARY.contains(name), true);
        } else if (!method.isEmpty()) {
            calls.get(method).add(name);
        }
    }

    private void callsEnd() {
        Check.due("the calls of methods are seen", calls.size() > 100, true);
        for (String name : calls.keySet()) {
            boolean reader = READERS.contains(name.substring(0, name.indexOf('.')));
            // Book.add(op, operand) calls Book.add(number), which is another method
            boolean again = reachedFrom(name).contains(name) && !name.equals("Book.add");
            Check.due("rule 8: " + name + " calls itself", again && !reader, false);
            Check.due("rule 11: calls from " + name + " on go deep", depth(name) <= DEEPEST, true);
        }
    }

    private Set<String> reachedFrom(String name) {
        Set<String> reached = new LinkedHashSet<>();
        ArrayDeque<String> open = new ArrayDeque<>(calls.get(name));
        while (!open.isEmpty()) {
            String next = open.pop();
            if (reached.add(next)) {
                open.addAll(calls.getOrDefault(next, Set.of()));
            }
        }
        return reached;
    }

    /** The longest chain of calls from there on, itself too, without those that are recursion. */
    private int depth(String name) {
        Integer known = depths.get(name);
        if (known != null) {
            return known;
        }
        depths.put(name, 0);
        boolean recursion = reachedFrom(name).contains(name);
        int deepest = 0;
        Set<String> next = recursion ? reachedFrom(name) : calls.getOrDefault(name, Set.of());
        for (String callee : next) {
            deepest = Math.max(deepest, recursion && reachedFrom(callee).contains(name) ? 0 : depth(callee));
        }
        depths.put(name, deepest + (recursion ? 0 : 1));
        return depths.get(name);
    }
}
