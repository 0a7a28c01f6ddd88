import com.sun.source.tree.AssertTree;
import com.sun.source.tree.BinaryTree;
import com.sun.source.tree.ClassTree;
import com.sun.source.tree.CompilationUnitTree;
import com.sun.source.tree.DoWhileLoopTree;
import com.sun.source.tree.ExpressionTree;
import com.sun.source.tree.ForLoopTree;
import com.sun.source.tree.LambdaExpressionTree;
import com.sun.source.tree.MemberReferenceTree;
import com.sun.source.tree.MethodInvocationTree;
import com.sun.source.tree.MethodTree;
import com.sun.source.tree.NewArrayTree;
import com.sun.source.tree.NewClassTree;
import com.sun.source.tree.SynchronizedTree;
import com.sun.source.tree.ThrowTree;
import com.sun.source.tree.Tree;
import com.sun.source.tree.TryTree;
import com.sun.source.tree.TypeCastTree;
import com.sun.source.tree.VariableTree;
import com.sun.source.tree.WhileLoopTree;
import com.sun.source.util.JavacTask;
import com.sun.source.util.TreePath;
import com.sun.source.util.TreePathScanner;
import com.sun.source.util.Trees;
import java.io.IOException;
import java.nio.file.Files;
import java.nio.file.Path;
import java.util.HashMap;
import java.util.HashSet;
import java.util.List;
import java.util.Map;
import java.util.Set;
import java.util.TreeSet;
import javax.lang.model.element.Element;
import javax.lang.model.element.ElementKind;
import javax.lang.model.element.Modifier;
import javax.lang.model.element.TypeElement;
import javax.lang.model.type.TypeKind;
import javax.tools.JavaCompiler;
import javax.tools.StandardJavaFileManager;
import javax.tools.ToolProvider;

/**
 * LANGUAGE.md, so far as it can be told without running the class: what the compiler reads in its file, which is the
 * first argument. What the class doesn't need is ruled out here even where LANGUAGE.md allows it (recursion, long,
 * lists): a change that needs it lets it in here. (Rule 1 is FaceTest's, that no call makes an object RandomRunsTest's.)
 */
public final class LanguageTest extends TreePathScanner<Void, String> {
    private static final Set<String> LIBRARY = Set.of("String.length", "String.charAt", "Math.min", "Math.floorMod",
        "Integer.bitCount", "System.arraycopy", "Arrays.fill");
    private static final Set<String> TYPES = Set.of("int", "int[]", "int[][]", "boolean", "String");
    private static final int MOST_PARAMETERS = 7;
    private static final int MOST_LINES = 60;
    private static final int MOST_DEEP = 8;
    private static final int MOST_CLASSES = 12;
    private static final int MOST_FIELDS = 20;

    private final Trees trees;
    private final CompilationUnitTree unit;
    private final Set<String> classes = new TreeSet<>();
    private final Map<String, Set<String>> calls = new HashMap<>();

    private LanguageTest(Trees trees, CompilationUnitTree unit) {
        this.trees = trees;
        this.unit = unit;
    }

    public static void main(String[] args) throws IOException {
        Path file = Path.of(args[0]);
        checkSigns(Files.readAllLines(file));
        JavaCompiler javac = ToolProvider.getSystemJavaCompiler();
        try (StandardJavaFileManager files = javac.getStandardFileManager(null, null, null)) {
            JavacTask task = (JavacTask) javac.getTask(null, files, null, List.of("-proc:none"), null,
                files.getJavaFileObjects(file));
            CompilationUnitTree unit = task.parse().iterator().next();
            task.analyze();
            LanguageTest test = new LanguageTest(Trees.instance(task), unit);
            test.checkUnit();
        }
        Check.end("LanguageTest");
    }

    private static void checkSigns(List<String> lines) {
        for (int i = 0; i < lines.size(); i++) {
            Check.holds("line " + (i + 1) + ": signs 1 to 127", lines.get(i).chars().allMatch(c -> c > 0 && c < 128));
        }
    }

    private void checkUnit() {
        Check.holds("no package", unit.getPackage() == null);
        Check.due("classes beside HedgeHeaps in the file", unit.getTypeDecls().size(), 1);
        Check.holds("imports " + unit.getImports(), unit.getImports().stream()
            .allMatch(i -> !i.isStatic() && i.getQualifiedIdentifier().toString().equals("java.util.Arrays")));
        collectClasses();
        scan(unit, "");
        Check.holds("classes: " + classes, classes.size() <= MOST_CLASSES);
        for (String method : calls.keySet()) {
            Check.holds(method + " goes " + depthOf(method, new HashSet<>()) + " deep",
                depthOf(method, new HashSet<>()) <= MOST_DEEP);
        }
    }

    /** Ahead of all else, as a class may be used above the line where it stands. */
    private void collectClasses() {
        new TreePathScanner<Void, Void>() {
            @Override
            public Void visitClass(ClassTree tree, Void none) {
                classes.add(tree.getSimpleName().toString());
                return super.visitClass(tree, none);
            }
        }.scan(unit, null);
    }

    /** Calls that stand open at once, those of the library too; rule 8 (recursion) isn't needed by this class. */
    private int depthOf(String method, Set<String> open) {
        Check.holds(method + " doesn't come back to itself", open.add(method));
        int deepest = 0;
        for (String called : calls.getOrDefault(method, Set.of())) {
            deepest = Math.max(deepest, open.contains(called) ? MOST_DEEP : depthOf(called, open));
        }
        open.remove(method);
        return 1 + deepest;
    }

    private void ruledOut(String rule, Tree tree) {
        Check.holds("rule " + rule + ": " + tree, false);
    }

    private String nameOf(Element method) {
        return method.getEnclosingElement().getSimpleName() + "." + method.getSimpleName();
    }

    private long lineAt(long position) {
        return unit.getLineMap().getLineNumber(position);
    }

    // ---- what stands in the file

    @Override
    public Void visitClass(ClassTree tree, String method) {
        String name = tree.getSimpleName().toString();
        Element element = trees.getElement(getCurrentPath());
        boolean outer = name.equals("HedgeHeaps");
        Check.holds("rule 2: " + name + " stands right in the class and is static",
            outer || element.getModifiers().contains(Modifier.STATIC)
                && element.getEnclosingElement().getSimpleName().contentEquals("HedgeHeaps"));
        Check.holds("rule 1: " + name + " isn't seen from outside", outer || element.getModifiers().contains(Modifier.PRIVATE));
        long fields = tree.getMembers().stream().filter(m -> m instanceof VariableTree
            && !((VariableTree) m).getModifiers().getFlags().contains(Modifier.STATIC)).count();
        Check.holds("rule 11: " + name + " has " + fields + " fields", fields <= MOST_FIELDS);
        Check.holds("rule 5: " + name + " has no initialiser block",
            tree.getMembers().stream().noneMatch(m -> m.getKind() == Tree.Kind.BLOCK));
        return super.visitClass(tree, method);
    }

    @Override
    public Void visitMethod(MethodTree tree, String method) {
        String name = nameOf(trees.getElement(getCurrentPath()));
        calls.putIfAbsent(name, new TreeSet<>());
        Check.holds("rule 11: " + name + " takes few", tree.getParameters().size() <= MOST_PARAMETERS);
        long lines = lineAt(trees.getSourcePositions().getEndPosition(unit, tree))
            - lineAt(trees.getSourcePositions().getStartPosition(unit, tree)) + 1;
        Check.holds("rule 11: " + name + " has " + lines + " lines", lines <= MOST_LINES);
        Check.holds("rule 6: " + name + " throws nothing", tree.getThrows().isEmpty());
        Set<String> objects = Set.of("equals", "hashCode", "toString", "finalize", "clone");
        Check.holds("rule 6: " + name, !objects.contains(tree.getName().toString()));
        return super.visitMethod(tree, name);
    }

    @Override
    public Void visitVariable(VariableTree tree, String method) {
        String type = String.valueOf(tree.getType());
        String element = type.endsWith("[]") ? type.substring(0, type.length() - 2) : type;
        Check.holds("rule 3: " + tree, TYPES.contains(type) || classes.contains(element));
        Element variable = trees.getElement(getCurrentPath());
        if (variable.getKind() == ElementKind.FIELD && variable.getModifiers().contains(Modifier.STATIC)) {
            Check.holds("rule 5: " + tree + " is a constant", variable.getModifiers().contains(Modifier.FINAL)
                && (type.equals("int") || type.equals("int[]") && tree.getInitializer() instanceof NewArrayTree));
        }
        return super.visitVariable(tree, method);
    }

    @Override
    public Void visitMethodInvocation(MethodInvocationTree tree, String method) {
        Element called = trees.getElement(getCurrentPath());
        String name = nameOf(called);
        String owner = name.substring(0, name.indexOf('.'));
        // super() of Object is written in by the compiler and makes nothing.
        if (!name.equals("Object.<init>")) {
            Check.holds("rule 4: " + name, classes.contains(owner) || LIBRARY.contains(name));
            calls.computeIfAbsent(method, m -> new TreeSet<>()).add(name);
        }
        return super.visitMethodInvocation(tree, method);
    }

    @Override
    public Void visitNewClass(NewClassTree tree, String method) {
        TypeElement made = (TypeElement) trees.getElement(getCurrentPath()).getEnclosingElement();
        String name = made.getSimpleName().toString();
        Check.holds("rule 2: " + tree + " is one of its own, no class without a name",
            classes.contains(name) && tree.getClassBody() == null);
        // A field's beginning belongs to the constructor.
        boolean inField = method.isEmpty();
        Element holder = trees.getElement(inField ? getCurrentPath().getParentPath() : getCurrentPath());
        String maker = inField ? nameOf(holder).replaceFirst("\\..*", ".<init>") : method;
        Check.holds("rule 12: " + maker + " makes " + name + " once and for all", maker.endsWith(".<init>"));
        calls.computeIfAbsent(maker, m -> new TreeSet<>()).add(name + ".<init>");
        return super.visitNewClass(tree, method);
    }

    @Override
    public Void visitNewArray(NewArrayTree tree, String method) {
        Check.holds("rule 12: " + tree + " is made with its object", method.isEmpty() || method.endsWith(".<init>"));
        return super.visitNewArray(tree, method);
    }

    @Override
    public Void visitBinary(BinaryTree tree, String method) {
        boolean numbers = isPlain(tree.getLeftOperand()) && isPlain(tree.getRightOperand());
        Check.holds("rules 6, 10: " + tree + " is of numbers or truths", numbers);
        return super.visitBinary(tree, method);
    }

    private boolean isPlain(ExpressionTree tree) {
        TypeKind kind = trees.getTypeMirror(new TreePath(getCurrentPath(), tree)).getKind();
        return kind.isPrimitive();
    }

    // ---- loops: each has a bound in its own lines

    @Override
    public Void visitForLoop(ForLoopTree tree, String method) {
        Check.holds("rule 9: " + tree, tree.getCondition() != null && tree.getUpdate().size() == 1
            && String.valueOf(tree.getCondition()).matches(".*(<|<=|>|>=) .*"));
        return super.visitForLoop(tree, method);
    }

    @Override
    public Void visitWhileLoop(WhileLoopTree tree, String method) {
        String counter = String.valueOf(tree.getCondition()).replaceFirst("^\\((\\w+) < .*", "$1");
        Check.holds("rule 9: " + tree, String.valueOf(tree.getStatement()).contains(counter + "++"));
        return super.visitWhileLoop(tree, method);
    }

    @Override
    public Void visitDoWhileLoop(DoWhileLoopTree tree, String method) {
        ruledOut("9 (not needed here)", tree);
        return null;
    }

    // ---- what isn't there at all

    @Override
    public Void visitThrow(ThrowTree tree, String method) {
        ruledOut("6", tree);
        return null;
    }

    @Override
    public Void visitTry(TryTree tree, String method) {
        ruledOut("6", tree);
        return null;
    }

    @Override
    public Void visitSynchronized(SynchronizedTree tree, String method) {
        ruledOut("6", tree);
        return null;
    }

    @Override
    public Void visitAssert(AssertTree tree, String method) {
        ruledOut("6", tree);
        return null;
    }

    @Override
    public Void visitLambdaExpression(LambdaExpressionTree tree, String method) {
        ruledOut("2", tree);
        return null;
    }

    @Override
    public Void visitMemberReference(MemberReferenceTree tree, String method) {
        ruledOut("2", tree);
        return null;
    }

    @Override
    public Void visitTypeCast(TypeCastTree tree, String method) {
        String type = String.valueOf(tree.getType());
        Check.holds("rule 7: " + tree + " is a cast of numbers", type.equals("byte") || type.equals("short"));
        return super.visitTypeCast(tree, method);
    }
}
