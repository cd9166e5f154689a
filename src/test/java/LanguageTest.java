import com.sun.source.tree.AssertTree;
import com.sun.source.tree.BinaryTree;
import com.sun.source.tree.BlockTree;
import com.sun.source.tree.ClassTree;
import com.sun.source.tree.CompilationUnitTree;
import com.sun.source.tree.ImportTree;
import com.sun.source.tree.LambdaExpressionTree;
import com.sun.source.tree.MemberReferenceTree;
import com.sun.source.tree.MethodInvocationTree;
import com.sun.source.tree.MethodTree;
import com.sun.source.tree.NewArrayTree;
import com.sun.source.tree.NewClassTree;
import com.sun.source.tree.SynchronizedTree;
import com.sun.source.tree.ThrowTree;
import com.sun.source.tree.Tree;
import com.sun.source.tree.TryTree;
import com.sun.source.tree.VariableTree;
import com.sun.source.util.JavacTask;
import com.sun.source.util.TreePathScanner;
import com.sun.source.util.Trees;
import java.io.IOException;
import java.util.HashMap;
import java.util.HashSet;
import java.util.List;
import java.util.Map;
import java.util.Set;
import java.util.regex.Pattern;
import javax.lang.model.element.Element;
import javax.lang.model.element.ElementKind;
import javax.lang.model.element.Modifier;
import javax.lang.model.element.TypeElement;
import javax.lang.model.type.TypeKind;
import javax.lang.model.type.TypeMirror;
import javax.tools.JavaCompiler;
import javax.tools.StandardJavaFileManager;
import javax.tools.ToolProvider;

/** That the class keeps to LANGUAGE.md, as far as its tree tells; FaceTest looks at rules 1, 2, 5 and 11 as well. */
public final class LanguageTest extends TreePathScanner<Void, Void> {
    private static final String FILE = "src/main/java/WrongedMeters.java";
    private static final int MOST_PARAMETERS = 7;
    private static final int MOST_LINES = 60;
    private static final int MOST_CALLS_DEEP = 8;
    /** All that the class calls of the library; LANGUAGE.md has more. */
    private static final Set<String> LIBRARY = Set.of("java.lang.Object.<init>", "java.lang.System.arraycopy", "java.lang.Math.abs",
        "java.lang.Math.max");
    /** Own classes, numbers and booleans, in one dimension at most. */
    private static final Pattern TYPE = Pattern.compile("(int|long|short|byte|char|boolean|double|float|WrongedMeters[.\\w]*)(\\[\\])?");

    private final Trees trees;
    private final CompilationUnitTree unit;
    private final Map<Element, Set<Element>> calls = new HashMap<>();
    private Element method;
    private int wrong;

    private LanguageTest(Trees trees, CompilationUnitTree unit) {
        this.trees = trees;
        this.unit = unit;
    }

    public static void main(String[] args) throws IOException {
        JavaCompiler compiler = ToolProvider.getSystemJavaCompiler();
        try (StandardJavaFileManager files = compiler.getStandardFileManager(null, null, null)) {
            JavacTask task = (JavacTask) compiler.getTask(null, files, null, List.of("-proc:none"), null, files.getJavaFileObjects(FILE));
            CompilationUnitTree unit = task.parse().iterator().next();
            task.analyze();
            LanguageTest test = new LanguageTest(Trees.instance(task), unit);
            test.signs();
            test.scan(unit, null);
            test.depths();
            System.out.println("LanguageTest: " + test.calls.size() + " methods, " + test.wrong + " breaks of a rule");
            if (test.wrong != 0) System.exit(1);
        }
    }

    private void tell(int rule, Tree tree, String what) {
        wrong++;
        long line = unit.getLineMap().getLineNumber(trees.getSourcePositions().getStartPosition(unit, tree));
        System.out.println("LANGUAGE.md, rule " + rule + ", line " + line + ": " + what);
    }

    private void signs() throws IOException {
        CharSequence text = unit.getSourceFile().getCharContent(false);
        for (int i = 0; i < text.length(); i++) if (text.charAt(i) > 126) tell(4, unit, "a sign of the number " + (int) text.charAt(i));
    }

    // ---- what may not stand in it

    @Override
    public Void visitCompilationUnit(CompilationUnitTree tree, Void none) {
        if (tree.getPackageName() != null) tell(1, tree, "a package");
        if (tree.getTypeDecls().size() != 1) tell(1, tree, "more than one class");
        return super.visitCompilationUnit(tree, none);
    }

    @Override
    public Void visitImport(ImportTree tree, Void none) {
        tell(4, tree, "an import");
        return null;
    }

    @Override
    public Void visitLambdaExpression(LambdaExpressionTree tree, Void none) {
        tell(2, tree, "a lambda");
        return super.visitLambdaExpression(tree, none);
    }

    @Override
    public Void visitMemberReference(MemberReferenceTree tree, Void none) {
        tell(2, tree, "a method reference");
        return super.visitMemberReference(tree, none);
    }

    @Override
    public Void visitThrow(ThrowTree tree, Void none) {
        tell(6, tree, "a throw, which no promise asks for");
        return super.visitThrow(tree, none);
    }

    @Override
    public Void visitTry(TryTree tree, Void none) {
        tell(6, tree, "a try, though nothing throws");
        return super.visitTry(tree, none);
    }

    @Override
    public Void visitSynchronized(SynchronizedTree tree, Void none) {
        tell(6, tree, "a synchronized");
        return super.visitSynchronized(tree, none);
    }

    @Override
    public Void visitAssert(AssertTree tree, Void none) {
        tell(6, tree, "an assert");
        return super.visitAssert(tree, none);
    }

    // ---- members

    @Override
    public Void visitClass(ClassTree tree, Void none) {
        for (Tree member : tree.getMembers()) {
            if (member instanceof BlockTree block && block.isStatic()) tell(5, member, "a static initialiser block");
        }
        return super.visitClass(tree, none);
    }

    @Override
    public Void visitVariable(VariableTree tree, Void none) {
        TypeMirror type = trees.getTypeMirror(getCurrentPath());
        if (!TYPE.matcher(type.toString()).matches()) tell(3, tree, "a variable of the type " + type);
        Element variable = trees.getElement(getCurrentPath());
        boolean isConstant = variable.getModifiers().contains(Modifier.FINAL);
        if (variable.getModifiers().contains(Modifier.STATIC) && !isConstant) tell(5, tree, tree.getName() + " is static and not final");
        return super.visitVariable(tree, none);
    }

    @Override
    public Void visitMethod(MethodTree tree, Void none) {
        method = trees.getElement(getCurrentPath());
        calls.put(method, new HashSet<>());
        String name = tree.getName().toString();
        if (tree.getParameters().size() > MOST_PARAMETERS) tell(11, tree, "too many parameters of " + name);
        if (lines(tree) > MOST_LINES) tell(11, tree, name + " is too long");
        if (Set.of("equals", "hashCode", "toString").contains(name)) tell(6, tree, "a method " + name);
        super.visitMethod(tree, none);
        method = null;
        return null;
    }

    private long lines(Tree tree) {
        long start = trees.getSourcePositions().getStartPosition(unit, tree);
        long end = trees.getSourcePositions().getEndPosition(unit, tree);
        return unit.getLineMap().getLineNumber(end) - unit.getLineMap().getLineNumber(start) + 1;
    }

    // ---- expressions

    @Override
    public Void visitBinary(BinaryTree tree, Void none) {
        TypeKind kind = trees.getTypeMirror(getCurrentPath()).getKind();
        if (kind == TypeKind.DECLARED) tell(10, tree, "texts are joined by +");
        boolean isFloat = kind == TypeKind.FLOAT || kind == TypeKind.DOUBLE;
        if (isFloat && tree.getKind() == Tree.Kind.REMAINDER) tell(3, tree, "a remainder of floats");
        return super.visitBinary(tree, none);
    }

    @Override
    public Void visitNewClass(NewClassTree tree, Void none) {
        makes(tree);
        addCall(trees.getElement(getCurrentPath()));
        return super.visitNewClass(tree, none);
    }

    @Override
    public Void visitNewArray(NewArrayTree tree, Void none) {
        makes(tree);
        return super.visitNewArray(tree, none);
    }

    /** All is made with the object, so that calls cost no room. */
    private void makes(Tree tree) {
        if (method != null && method.getKind() != ElementKind.CONSTRUCTOR) tell(12, tree, method.getSimpleName() + "() makes an object");
    }

    @Override
    public Void visitMethodInvocation(MethodInvocationTree tree, Void none) {
        Element called = trees.getElement(getCurrentPath());
        String owner = ((TypeElement) called.getEnclosingElement()).getQualifiedName().toString();
        if (owner.startsWith("WrongedMeters")) {
            addCall(called);
        } else if (!LIBRARY.contains(owner + "." + called.getSimpleName())) {
            tell(4, tree, "a call of " + owner + "." + called.getSimpleName());
        }
        return super.visitMethodInvocation(tree, none);
    }

    private void addCall(Element called) {
        if (method != null) calls.get(method).add(called);
    }

    // ---- calls within calls

    private void depths() {
        for (Element start : calls.keySet()) {
            int depth = depth(start, 1);
            if (depth > MOST_CALLS_DEEP) tell(11, trees.getTree(start), start + " is " + depth + " calls deep, or calls itself");
        }
    }

    /** How many calls stand open at once at most; of a call that calls itself it is one more than may be. */
    private int depth(Element from, int open) {
        int most = open;
        if (open > MOST_CALLS_DEEP) return open;
        for (Element called : calls.getOrDefault(from, Set.of())) most = Math.max(most, depth(called, open + 1));
        return most;
    }
}
