import com.sun.source.tree.AssertTree;
import com.sun.source.tree.CatchTree;
import com.sun.source.tree.ClassTree;
import com.sun.source.tree.CompilationUnitTree;
import com.sun.source.tree.DoWhileLoopTree;
import com.sun.source.tree.ExpressionTree;
import com.sun.source.tree.ForLoopTree;
import com.sun.source.tree.LambdaExpressionTree;
import com.sun.source.tree.LiteralTree;
import com.sun.source.tree.MemberReferenceTree;
import com.sun.source.tree.MethodInvocationTree;
import com.sun.source.tree.MethodTree;
import com.sun.source.tree.NewArrayTree;
import com.sun.source.tree.NewClassTree;
import com.sun.source.tree.SynchronizedTree;
import com.sun.source.tree.ThrowTree;
import com.sun.source.tree.Tree;
import com.sun.source.tree.TryTree;
import com.sun.source.tree.TypeCastTree;
import com.sun.source.tree.VariableTree;
import com.sun.source.tree.WhileLoopTree;
import com.sun.source.util.JavacTask;
import com.sun.source.util.TreePath;
import com.sun.source.util.TreePathScanner;
import com.sun.source.util.Trees;
import java.io.IOException;
import java.nio.file.Path;
import java.util.HashMap;
import java.util.HashSet;
import java.util.LinkedHashMap;
import java.util.LinkedHashSet;
import java.util.List;
import java.util.Map;
import java.util.Set;
import javax.lang.model.element.Element;
import javax.lang.model.element.ElementKind;
import javax.lang.model.element.ExecutableElement;
import javax.lang.model.element.Modifier;
import javax.lang.model.element.TypeElement;
import javax.lang.model.element.VariableElement;
import javax.tools.JavaCompiler;
import javax.tools.StandardJavaFileManager;
import javax.tools.ToolProvider;

/** The rules of LANGUAGE.md that the compiler's own reading of the source can tell: what is called, and how deep. */
public final class LanguageTest extends TreePathScanner<Void, Void> {
    private static final Path SOURCE = Path.of("src/main/java/PlaneProof.java");
    private static final int CALLS_DEEP = 8;
    /** Rule 4, as far as the class uses it: another name has to be looked up there first. */
    private static final Set<String> LIBRARY = Set.of("java.lang.String.length", "java.lang.String.charAt",
        "java.lang.Math.abs", "java.lang.Math.max", "java.lang.Math.min", "java.lang.Math.floorDiv", "java.lang.Math.floorMod",
        "java.lang.Integer.bitCount", "java.lang.Long.bitCount", "java.util.Arrays.fill");
    private static final Set<String> THROWN = Set.of("IllegalStateException", "IllegalArgumentException",
        "IndexOutOfBoundsException", "NoSuchElementException");
    private static final Set<String> NUMBERS = Set.of("int", "long", "short", "byte", "char", "boolean");
    private static final Set<String> CONSTANTS = Set.of("int", "long", "boolean", "char", "java.lang.String");

    private final Trees trees;
    /** Of each method and constructor of the file those that it may call. */
    private final Map<ExecutableElement, Set<ExecutableElement>> calls = new LinkedHashMap<>();
    private final Set<String> ownTypes = new HashSet<>();
    private final Map<ExecutableElement, Integer> deep = new HashMap<>();

    private LanguageTest(Trees trees) {
        this.trees = trees;
    }

    public static void main(String[] args) throws IOException {
        JavaCompiler compiler = ToolProvider.getSystemJavaCompiler();
        try (StandardJavaFileManager files = compiler.getStandardFileManager(null, null, null)) {
            JavacTask task = (JavacTask) compiler.getTask(null, files, null, List.of("-proc:none"), null,
                files.getJavaFileObjects(SOURCE));
            Iterable<? extends CompilationUnitTree> units = task.parse();
            task.analyze();
            LanguageTest test = new LanguageTest(Trees.instance(task));
            for (CompilationUnitTree unit : units) {
                test.ownTypes(unit);
                test.scan(unit, null);
            }
            test.recursion();
            test.callsDeep();
        }
        Check.finish("LanguageTest");
    }

    private void outside(String rule, Tree tree) {
        Check.yes("rule " + rule + ": " + tree, false);
    }

    private Element here() {
        return trees.getElement(getCurrentPath());
    }

    private void ownTypes(CompilationUnitTree unit) {
        new TreePathScanner<Void, Void>() {
            @Override
            public Void visitClass(ClassTree tree, Void none) {
                ownTypes.add(trees.getElement(getCurrentPath()).asType().toString());
                return super.visitClass(tree, none);
            }
        }.scan(unit, null);
    }

    // ---- what may not stand at all ---------------------------------------------------------

    @Override
    public Void visitLambdaExpression(LambdaExpressionTree tree, Void none) {
        outside("2", tree);
        return super.visitLambdaExpression(tree, none);
    }

    @Override
    public Void visitMemberReference(MemberReferenceTree tree, Void none) {
        outside("2", tree);
        return super.visitMemberReference(tree, none);
    }

    /** The class catches nothing, as it asks before it uses. */
    @Override
    public Void visitTry(TryTree tree, Void none) {
        outside("6", tree);
        return super.visitTry(tree, none);
    }

    @Override
    public Void visitCatch(CatchTree tree, Void none) {
        outside("6", tree);
        return super.visitCatch(tree, none);
    }

    @Override
    public Void visitSynchronized(SynchronizedTree tree, Void none) {
        outside("6", tree);
        return super.visitSynchronized(tree, none);
    }

    @Override
    public Void visitAssert(AssertTree tree, Void none) {
        outside("6", tree);
        return super.visitAssert(tree, none);
    }

    /** Casts are of numbers alone, so none can fail. */
    @Override
    public Void visitTypeCast(TypeCastTree tree, Void none) {
        Check.yes("a cast of numbers: " + tree, NUMBERS.contains(tree.getType().toString()));
        return super.visitTypeCast(tree, none);
    }

    // ---- classes, fields and types -----------------------------------------------------------

    @Override
    public Void visitClass(ClassTree tree, Void none) {
        Element it = here();
        Check.no("a local class: " + tree.getSimpleName(), it.getEnclosingElement() instanceof ExecutableElement);
        Check.no("a class without a name", tree.getSimpleName().isEmpty());
        return super.visitClass(tree, none);
    }

    @Override
    public Void visitVariable(VariableTree tree, Void none) {
        VariableElement it = (VariableElement) here();
        String type = it.asType().toString();
        String bare = type.endsWith("[]") ? type.substring(0, type.length() - 2) : type;
        boolean known = NUMBERS.contains(bare) || ownTypes.contains(bare);
        Check.yes("a type of rule 3: " + type + " " + it, known || type.equals("java.lang.String"));
        if (it.getKind() == ElementKind.FIELD && it.getModifiers().contains(Modifier.STATIC)) {
            boolean isConstant = it.getConstantValue() != null && CONSTANTS.contains(type);
            Check.yes("a constant: " + it, isConstant || tree.getInitializer() instanceof NewArrayTree);
            Check.yes("final: " + it, it.getModifiers().contains(Modifier.FINAL));
        }
        return super.visitVariable(tree, none);
    }

    // ---- exceptions --------------------------------------------------------------------------

    @Override
    public Void visitThrow(ThrowTree tree, Void none) {
        ExpressionTree thrown = tree.getExpression();
        Check.yes("throws what it makes: " + tree, thrown instanceof NewClassTree);
        if (thrown instanceof NewClassTree made) {
            Check.yes("may be thrown: " + tree, THROWN.contains(made.getIdentifier().toString()));
            Check.yes("a written text: " + tree, made.getArguments().stream().allMatch(LiteralTree.class::isInstance));
        }
        Check.no("a throw in a constructor: " + tree, method().getKind() == ElementKind.CONSTRUCTOR);
        return super.visitThrow(tree, none);
    }

    // ---- loops ---------------------------------------------------------------------------------

    @Override
    public Void visitForLoop(ForLoopTree tree, Void none) {
        Check.yes("a for with an end: " + tree, tree.getCondition() != null);
        return super.visitForLoop(tree, none);
    }

    @Override
    public Void visitWhileLoop(WhileLoopTree tree, Void none) {
        Check.no("a while with an end: " + tree, tree.getCondition().toString().equals("(true)"));
        return super.visitWhileLoop(tree, none);
    }

    @Override
    public Void visitDoWhileLoop(DoWhileLoopTree tree, Void none) {
        Check.no("a do with an end: " + tree, tree.getCondition().toString().equals("(true)"));
        return super.visitDoWhileLoop(tree, none);
    }

    // ---- calls ---------------------------------------------------------------------------------

    private ExecutableElement method() {
        TreePath path = getCurrentPath();
        while (path != null && !(path.getLeaf() instanceof MethodTree)) {
            path = path.getParentPath();
        }
        return path == null ? null : (ExecutableElement) trees.getElement(path);
    }

    @Override
    public Void visitMethod(MethodTree tree, Void none) {
        calls.putIfAbsent((ExecutableElement) here(), new LinkedHashSet<>());
        return super.visitMethod(tree, none);
    }

    @Override
    public Void visitMethodInvocation(MethodInvocationTree tree, Void none) {
        called((ExecutableElement) here());
        return super.visitMethodInvocation(tree, none);
    }

    @Override
    public Void visitNewClass(NewClassTree tree, Void none) {
        ExecutableElement made = (ExecutableElement) here();
        if (isOwn(made)) {
            called(made);
        } else {
            boolean isThrown = getCurrentPath().getParentPath().getLeaf() instanceof ThrowTree;
            Check.yes("made of the library: " + tree, isThrown);
        }
        return super.visitNewClass(tree, none);
    }

    private boolean isOwn(ExecutableElement called) {
        return ownTypes.contains(called.getEnclosingElement().asType().toString());
    }

    private void called(ExecutableElement called) {
        if (isOwn(called)) {
            Check.yes("a call inside a method: " + called, method() != null);
            calls.computeIfAbsent(method(), m -> new LinkedHashSet<>()).add(called);
            return;
        }
        String name = ((TypeElement) called.getEnclosingElement()).getQualifiedName() + "." + called.getSimpleName();
        boolean isObject = called.getKind() == ElementKind.CONSTRUCTOR && name.equals("java.lang.Object.<init>");
        Check.yes("rule 4 lists it: " + name, isObject || LIBRARY.contains(name));
    }

    /** A call of an abstract method may go to any method of that name in the file. */
    private Set<ExecutableElement> reached(ExecutableElement from) {
        Set<ExecutableElement> all = new LinkedHashSet<>();
        for (ExecutableElement to : calls.get(from)) {
            if (!to.getModifiers().contains(Modifier.ABSTRACT)) {
                all.add(to);
                continue;
            }
            for (ExecutableElement other : calls.keySet()) {
                boolean sameName = other.getSimpleName().equals(to.getSimpleName());
                if (sameName && !other.getModifiers().contains(Modifier.ABSTRACT)) {
                    all.add(other);
                }
            }
        }
        return all;
    }

    /** The one form of recursion that the class has: a private static method that calls itself. */
    private void recursion() {
        for (ExecutableElement m : calls.keySet()) {
            Set<ExecutableElement> behind = new LinkedHashSet<>();
            boolean itself = reached(m).contains(m);
            Check.yes("private and static: " + m, !itself || m.getModifiers().containsAll(Set.of(Modifier.PRIVATE, Modifier.STATIC)));
            for (ExecutableElement next : reached(m)) {
                if (!next.equals(m)) {
                    allBehind(next, behind);
                }
            }
            Check.no("calls one another: " + m, behind.contains(m));
        }
    }

    private void allBehind(ExecutableElement m, Set<ExecutableElement> found) {
        if (found.add(m)) {
            for (ExecutableElement next : reached(m)) {
                allBehind(next, found);
            }
        }
    }

    private void callsDeep() {
        int most = 0;
        for (ExecutableElement m : calls.keySet()) {
            int found = deepFrom(m);
            most = Math.max(most, found);
            Check.yes("calls " + found + " deep from " + m, found <= CALLS_DEEP);
        }
        Check.yes("some calls were found", most > 1);
    }

    private int deepFrom(ExecutableElement m) {
        if (!deep.containsKey(m)) {
            int most = 0;
            // A cycle, which recursion() tells, ends here.
            deep.put(m, 0);
            for (ExecutableElement next : reached(m)) {
                most = next.equals(m) ? most : Math.max(most, deepFrom(next));
            }
            deep.put(m, most + 1);
        }
        return deep.get(m);
    }
}
