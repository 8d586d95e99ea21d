import com.sun.source.tree.AssertTree;
import com.sun.source.tree.BinaryTree;
import com.sun.source.tree.BlockTree;
import com.sun.source.tree.ClassTree;
import com.sun.source.tree.CompilationUnitTree;
import com.sun.source.tree.DoWhileLoopTree;
import com.sun.source.tree.ExpressionTree;
import com.sun.source.tree.ForLoopTree;
import com.sun.source.tree.ImportTree;
import com.sun.source.tree.LambdaExpressionTree;
import com.sun.source.tree.LiteralTree;
import com.sun.source.tree.MemberReferenceTree;
import com.sun.source.tree.MethodInvocationTree;
import com.sun.source.tree.MethodTree;
import com.sun.source.tree.NewArrayTree;
import com.sun.source.tree.NewClassTree;
import com.sun.source.tree.SynchronizedTree;
import com.sun.source.tree.ThrowTree;
import com.sun.source.tree.Tree;
import com.sun.source.tree.TryTree;
import com.sun.source.tree.TypeCastTree;
import com.sun.source.tree.VariableTree;
import com.sun.source.tree.WhileLoopTree;
import com.sun.source.util.JavacTask;
import com.sun.source.util.TreePathScanner;
import com.sun.source.util.Trees;
import java.io.IOException;
import java.nio.file.Path;
import java.util.HashMap;
import java.util.HashSet;
import java.util.List;
import java.util.Map;
import java.util.Set;
import javax.lang.model.element.Element;
import javax.lang.model.element.ElementKind;
import javax.lang.model.element.Modifier;
import javax.lang.model.element.VariableElement;
import javax.tools.JavaCompiler;
import javax.tools.StandardJavaFileManager;
import javax.tools.ToolProvider;

/**
 * What ../shared/LANGUAGE.md rules out does not stand in the source of the class. Where the class makes do with less than a
 * rule leaves (no catch, no text, no list), the test asks for the less; whoever needs more widens it by the rule.
 */
public final class LanguageTest extends TreePathScanner<Void, Void> {
    private static final Path SOURCE = Path.of("src/main/java/ScreenDesk.java");
    private static final Set<String> PLAIN_TYPES = Set.of("int", "long", "boolean", "int[]", "long[]");
    private static final Set<String> THROWN = Set.of("IllegalStateException", "IllegalArgumentException",
        "IndexOutOfBoundsException", "ArithmeticException", "UnsupportedOperationException", "NoSuchElementException",
        "RuntimeException");
    private static final Set<String> NUMBER_FUNCTIONS = Set.of("java.lang.Math", "java.lang.Integer", "java.lang.Long");
    private static final int MOST_CLASSES = 12;
    private static final int MOST_FIELDS = 20;
    private static final int MOST_PARAMETERS = 7;
    private static final int MOST_LINES = 60;
    private static final int MOST_DEPTH = 8;

    private final Trees trees;
    private final CompilationUnitTree unit;
    private final Set<String> ownClasses = new HashSet<>();
    private final Set<String> publicMethods = new HashSet<>();
    private final Set<String> privateMethods = new HashSet<>();
    private final Map<Element, Set<Element>> callsOf = new HashMap<>();
    private MethodTree method;
    private boolean inThrow;

    private LanguageTest(Trees trees, CompilationUnitTree unit) {
        this.trees = trees;
        this.unit = unit;
    }

    public static void main(String[] args) throws IOException {
        JavaCompiler compiler = ToolProvider.getSystemJavaCompiler();
        try (StandardJavaFileManager files = compiler.getStandardFileManager(null, null, null)) {
            JavacTask task = (JavacTask) compiler.getTask(null, files, null, List.of("-proc:none"), null,
                files.getJavaFileObjects(SOURCE));
            CompilationUnitTree unit = task.parse().iterator().next();
            task.analyze();
            new LanguageTest(Trees.instance(task), unit).look();
        }
        Probe.finish();
    }

    private void look() {
        due("1: no package line", unit, unit.getPackageName() == null);
        due("1: one class", unit, unit.getTypeDecls().size() == 1);
        nameClasses(unit.getTypeDecls().get(0));
        scan(unit, null);
        due("11: at most some twelve classes", unit, ownClasses.size() <= MOST_CLASSES);
        for (String name : privateMethods) {
            due("1: no private method bears the name of a public one: " + name, unit, !publicMethods.contains(name));
        }
        for (Element caller : callsOf.keySet()) {
            int depth = depth(caller, new HashSet<>());
            due("11: calls go at most eight deep, and none comes back to " + caller, unit, depth <= MOST_DEPTH);
        }
    }

    private void nameClasses(Tree tree) {
        if (tree instanceof ClassTree found) {
            ownClasses.add(found.getSimpleName().toString());
            found.getMembers().forEach(this::nameClasses);
        }
    }

    /** A call that comes back to a method that stands open counts as too deep. */
    private int depth(Element caller, Set<Element> open) {
        if (!open.add(caller)) {
            return MOST_DEPTH + 1;
        }
        int deepest = 0;
        for (Element called : callsOf.getOrDefault(caller, Set.of())) {
            deepest = Math.max(deepest, depth(called, open));
        }
        open.remove(caller);
        return deepest + 1;
    }

    private void due(String rule, Tree tree, boolean kept) {
        long at = trees.getSourcePositions().getStartPosition(unit, tree);
        Probe.same("rule " + rule + ", line " + unit.getLineMap().getLineNumber(Math.max(0, at)), kept, true);
    }

    private Element element() {
        return trees.getElement(getCurrentPath());
    }

    @Override
    public Void visitImport(ImportTree tree, Void none) {
        due("4: the library", tree, tree.getQualifiedIdentifier().toString().equals("java.util.NoSuchElementException"));
        return super.visitImport(tree, none);
    }

    @Override
    public Void visitClass(ClassTree tree, Void none) {
        Set<Modifier> flags = tree.getModifiers().getFlags();
        boolean outer = getCurrentPath().getParentPath().getLeaf() == unit;
        due("1: public and final, or inside and static", tree, outer
            ? flags.contains(Modifier.PUBLIC) && flags.contains(Modifier.FINAL)
            : flags.contains(Modifier.STATIC) && !flags.contains(Modifier.PUBLIC) && !flags.contains(Modifier.PROTECTED));
        due("2: no class within a method", tree, method == null);
        long fields = tree.getMembers().stream().filter(member -> member instanceof VariableTree field
            && !field.getModifiers().getFlags().contains(Modifier.STATIC)).count();
        due("11: some twenty fields", tree, fields <= MOST_FIELDS);
        return super.visitClass(tree, none);
    }

    @Override
    public Void visitVariable(VariableTree tree, Void none) {
        String type = tree.getType().toString();
        due("3: types, " + type, tree, PLAIN_TYPES.contains(type) || ownClasses.contains(type));
        if (tree.getModifiers().getFlags().contains(Modifier.STATIC)) {
            boolean constant = element() instanceof VariableElement field && field.getConstantValue() != null;
            due("5: static fields are constants", tree, constant);
        }
        return super.visitVariable(tree, none);
    }

    @Override
    public Void visitMethod(MethodTree tree, Void none) {
        Set<Modifier> flags = tree.getModifiers().getFlags();
        boolean constructor = tree.getReturnType() == null;
        if (flags.contains(Modifier.PRIVATE) && !constructor) {
            privateMethods.add(tree.getName().toString());
        } else if (flags.contains(Modifier.PUBLIC) && !constructor) {
            publicMethods.add(tree.getName().toString());
        }
        due("11: at most seven parameters", tree, tree.getParameters().size() <= MOST_PARAMETERS);
        due("11: methods stay short", tree, lines(tree) <= MOST_LINES);
        callsOf.putIfAbsent(element(), new HashSet<>());
        method = tree;
        super.visitMethod(tree, none);
        method = null;
        return null;
    }

    private long lines(Tree tree) {
        long from = trees.getSourcePositions().getStartPosition(unit, tree);
        long to = trees.getSourcePositions().getEndPosition(unit, tree);
        // The constructor that the compiler adds stands nowhere.
        return to < 0 ? 0 : unit.getLineMap().getLineNumber(to) - unit.getLineMap().getLineNumber(from) + 1;
    }

    @Override
    public Void visitMethodInvocation(MethodInvocationTree tree, Void none) {
        Element called = element();
        String owner = called.getEnclosingElement().toString();
        boolean own = owner.equals("ScreenDesk") || owner.startsWith("ScreenDesk.");
        // Each constructor begins with that of Object, written or not.
        boolean begins = called.getKind() == ElementKind.CONSTRUCTOR && owner.equals("java.lang.Object");
        boolean onNumbers = NUMBER_FUNCTIONS.contains(owner) && !called.toString().matches(".*Exact\\(.*|.*(float|double).*");
        due("4: the library, " + owner + "." + called, tree, own || onNumbers || begins);
        if (own && method != null) {
            callsOf.computeIfAbsent(trees.getElement(trees.getPath(unit, method)), key -> new HashSet<>()).add(called);
        }
        return super.visitMethodInvocation(tree, none);
    }

    @Override
    public Void visitBlock(BlockTree tree, Void none) {
        due("5: no initialiser block", tree, method != null);
        return super.visitBlock(tree, none);
    }

    @Override
    public Void visitThrow(ThrowTree tree, Void none) {
        boolean known = tree.getExpression() instanceof NewClassTree made && THROWN.contains(made.getIdentifier().toString())
            && made.getArguments().stream().allMatch(text -> text instanceof LiteralTree);
        due("6: exceptions", tree, known);
        due("6: no throw in a constructor", tree, method != null && method.getReturnType() != null);
        inThrow = true;
        super.visitThrow(tree, none);
        inThrow = false;
        return null;
    }

    @Override
    public Void visitNewClass(NewClassTree tree, Void none) {
        due("12: objects are made with the desk alone", tree, method == null || inThrow);
        return super.visitNewClass(tree, none);
    }

    @Override
    public Void visitNewArray(NewArrayTree tree, Void none) {
        due("12: arrays are made with the desk alone", tree, method == null);
        due("3: of one dimension", tree, tree.getDimensions().size() == 1);
        return super.visitNewArray(tree, none);
    }

    @Override
    public Void visitBinary(BinaryTree tree, Void none) {
        if (tree.getKind() == Tree.Kind.DIVIDE || tree.getKind() == Tree.Kind.REMAINDER) {
            due("7: a divisor that is not 0", tree, tree.getRightOperand().toString().matches("[1-9][0-9]*"));
        }
        return super.visitBinary(tree, none);
    }

    @Override
    public Void visitTypeCast(TypeCastTree tree, Void none) {
        due("7: casts among numbers alone", tree, PLAIN_TYPES.contains(tree.getType().toString()));
        return super.visitTypeCast(tree, none);
    }

    @Override
    public Void visitForLoop(ForLoopTree tree, Void none) {
        hasEnd(tree, tree.getCondition());
        return super.visitForLoop(tree, none);
    }

    @Override
    public Void visitWhileLoop(WhileLoopTree tree, Void none) {
        hasEnd(tree, tree.getCondition());
        return super.visitWhileLoop(tree, none);
    }

    @Override
    public Void visitDoWhileLoop(DoWhileLoopTree tree, Void none) {
        hasEnd(tree, tree.getCondition());
        return super.visitDoWhileLoop(tree, none);
    }

    private void hasEnd(Tree loop, ExpressionTree condition) {
        due("9: a counter against a bound", loop, condition != null && condition.toString().matches(".*(<|<=|>|>=) .*"));
    }

    @Override
    public Void visitLambdaExpression(LambdaExpressionTree tree, Void none) {
        due("2: no lambda", tree, false);
        return super.visitLambdaExpression(tree, none);
    }

    @Override
    public Void visitMemberReference(MemberReferenceTree tree, Void none) {
        due("2: no method reference", tree, false);
        return super.visitMemberReference(tree, none);
    }

    @Override
    public Void visitTry(TryTree tree, Void none) {
        due("6: no try, so no catch of what the machine throws", tree, false);
        return super.visitTry(tree, none);
    }

    @Override
    public Void visitSynchronized(SynchronizedTree tree, Void none) {
        due("6: no synchronized", tree, false);
        return super.visitSynchronized(tree, none);
    }

    @Override
    public Void visitAssert(AssertTree tree, Void none) {
        due("6: no assert", tree, false);
        return super.visitAssert(tree, none);
    }
}
