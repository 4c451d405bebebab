import com.sun.source.tree.AssertTree;
import com.sun.source.tree.BinaryTree;
import com.sun.source.tree.ClassTree;
import com.sun.source.tree.CompilationUnitTree;
import com.sun.source.tree.CompoundAssignmentTree;
import com.sun.source.tree.ExpressionTree;
import com.sun.source.tree.IdentifierTree;
import com.sun.source.tree.ImportTree;
import com.sun.source.tree.LambdaExpressionTree;
import com.sun.source.tree.LiteralTree;
import com.sun.source.tree.MemberReferenceTree;
import com.sun.source.tree.MethodInvocationTree;
import com.sun.source.tree.MethodTree;
import com.sun.source.tree.NewClassTree;
import com.sun.source.tree.SynchronizedTree;
import com.sun.source.tree.ThrowTree;
import com.sun.source.tree.Tree;
import com.sun.source.tree.TryTree;
import com.sun.source.tree.VariableTree;
import com.sun.source.util.JavacTask;
import com.sun.source.util.TreePath;
import com.sun.source.util.TreePathScanner;
import com.sun.source.util.Trees;
import java.io.IOException;
import java.nio.charset.StandardCharsets;
import java.nio.file.Files;
import java.nio.file.Path;
import java.util.HashMap;
import java.util.List;
import java.util.Map;
import java.util.Set;
import java.util.TreeSet;
import javax.lang.model.element.Element;
import javax.lang.model.element.ElementKind;
import javax.lang.model.element.Modifier;
import javax.lang.model.element.TypeElement;
import javax.lang.model.element.VariableElement;
import javax.lang.model.type.TypeKind;
import javax.lang.model.type.TypeMirror;
import javax.tools.JavaCompiler;
import javax.tools.StandardJavaFileManager;
import javax.tools.ToolProvider;

/**
 * The rules of ../shared/LANGUAGE.md that can be seen in the source, read by the JDK's own compiler.
 * It is stricter than the rules are: it allows what the class needs. Rules 7 to 9 (each index and divisor
 * looked at, each loop ended) are left to the reader, and rule 1 to FaceTest.
 */
public final class LanguageTest extends TreePathScanner<Void, Void> {
    private static final Checks checks = new Checks("LanguageTest");
    private static final Path SOURCE = Path.of("src/main/java/ChordOverlay.java");
    private static final int LINES = 60;
    private static final int DEPTH = 8;

    private static final Set<String> LIBRARY = Set.of(
            "java.lang.Math.min", "java.lang.Math.max", "java.lang.Math.abs", "java.lang.Math.floorMod",
            "java.lang.Math.floorDiv", "java.lang.System.arraycopy", "java.util.Arrays.fill",
            "java.util.Arrays.copyOf", "java.util.Arrays.copyOfRange");
    private static final Set<String> TYPES = Set.of(
            "java.lang.String", "java.lang.Math", "java.lang.System", "java.util.Arrays",
            "java.lang.IllegalArgumentException", "java.lang.IllegalStateException",
            "java.lang.IndexOutOfBoundsException");

    private static final Set<Tree.Kind> DIVISIONS = Set.of(
            Tree.Kind.DIVIDE, Tree.Kind.REMAINDER, Tree.Kind.DIVIDE_ASSIGNMENT, Tree.Kind.REMAINDER_ASSIGNMENT);

    private final Trees trees;
    private final CompilationUnitTree unit;
    private final Map<String, Set<String>> calls = new HashMap<>();
    private final Set<String> publicNames = new TreeSet<>();
    private String caller = "";

    private LanguageTest(Trees trees, CompilationUnitTree unit) {
        this.trees = trees;
        this.unit = unit;
    }

    public static void main(String[] args) throws IOException {
        JavaCompiler compiler = ToolProvider.getSystemJavaCompiler();
        try (StandardJavaFileManager files = compiler.getStandardFileManager(null, null, StandardCharsets.UTF_8)) {
            JavacTask task = (JavacTask) compiler.getTask(
                    null, files, null, List.of("-proc:none"), null, files.getJavaFileObjects(SOURCE));
            CompilationUnitTree unit = task.parse().iterator().next();
            task.analyze();
            new LanguageTest(Trees.instance(task), unit).readAll();
        }
        readSigns();
        checks.tell();
    }

    private void readAll() {
        rule("one file without a package line", unit.getPackage() == null, unit);
        rule("rule 1: one public class", unit.getTypeDecls().size() == 1, unit);
        scan(unit, null);
        for (String method : calls.keySet()) {
            checks.same("rule 11: " + method + " goes at most " + DEPTH + " calls deep", depth(method, 1) <= DEPTH, true);
        }
    }

    private static void readSigns() throws IOException {
        for (char sign : Files.readString(SOURCE).toCharArray()) {
            if (sign > 127 || sign < 1) {
                checks.same("rule 4: the sign " + (int) sign, true, false);
            }
        }
    }

    private void rule(String rule, boolean kept, Tree tree) {
        long at = trees.getSourcePositions().getStartPosition(unit, tree);
        long line = at < 0 ? 0 : unit.getLineMap().getLineNumber(at);
        checks.same(rule + ", line " + line, kept, true);
    }

    private Element element() {
        return trees.getElement(getCurrentPath());
    }

    private static boolean isOwn(Element element) {
        Element outermost = element;
        while (outermost.getEnclosingElement() != null && outermost.getEnclosingElement().getKind() != ElementKind.PACKAGE) {
            outermost = outermost.getEnclosingElement();
        }
        return outermost.getSimpleName().contentEquals("ChordOverlay");
    }

    /** The longest way from a method through those that it calls; far too long if it comes back to itself. */
    private int depth(String method, int above) {
        int deepest = above;
        for (String called : calls.getOrDefault(method, Set.of())) {
            if (above <= DEPTH) {
                deepest = Math.max(deepest, depth(called, above + 1));
            }
        }
        return deepest;
    }

    // ---- classes, fields, methods

    @Override
    public Void visitClass(ClassTree tree, Void unused) {
        int fields = 0;
        for (Tree member : tree.getMembers()) {
            rule("rule 5: no initialiser block", member.getKind() != Tree.Kind.BLOCK, member);
            if (member instanceof VariableTree field && !field.getModifiers().getFlags().contains(Modifier.STATIC)) {
                fields++;
            }
            if (member instanceof MethodTree method && method.getModifiers().getFlags().contains(Modifier.PUBLIC)) {
                publicNames.add(method.getName().toString());
            }
        }
        rule("rule 11: some twenty fields", fields <= 20, tree);
        rule("rule 2: no class inside a method", caller.isEmpty(), tree);
        return super.visitClass(tree, unused);
    }

    @Override
    public Void visitMethod(MethodTree tree, Void unused) {
        long start = trees.getSourcePositions().getStartPosition(unit, tree);
        long end = trees.getSourcePositions().getEndPosition(unit, tree);
        if (start >= 0 && end >= start) {
            long lines = unit.getLineMap().getLineNumber(end) - unit.getLineMap().getLineNumber(start) + 1;
            rule("rule 11: some sixty lines", lines <= LINES, tree);
        }
        Set<Modifier> flags = tree.getModifiers().getFlags();
        rule("rule 11: seven parameters", tree.getParameters().size() <= 7, tree);
        if (tree.getReturnType() != null && !flags.contains(Modifier.PUBLIC)) {
            rule("rule 1: a public one's name", !publicNames.contains(tree.getName().toString()), tree);
        }
        String before = caller;
        caller = element().getEnclosingElement() + "." + element();
        calls.putIfAbsent(caller, new TreeSet<>());
        super.visitMethod(tree, unused);
        caller = before;
        return null;
    }

    @Override
    public Void visitVariable(VariableTree tree, Void unused) {
        if (tree.getModifiers().getFlags().contains(Modifier.STATIC)) {
            boolean constant = element() instanceof VariableElement field && field.getConstantValue() != null;
            rule("rule 5: static fields are constants", constant, tree);
        }
        return super.visitVariable(tree, unused);
    }

    // ---- the library

    @Override
    public Void visitIdentifier(IdentifierTree tree, Void unused) {
        if (element() instanceof TypeElement type && !isOwn(type)) {
            rule("rule 3: the type " + type, TYPES.contains(type.getQualifiedName().toString()), tree);
        }
        return super.visitIdentifier(tree, unused);
    }

    @Override
    public Void visitImport(ImportTree tree, Void unused) {
        String imported = tree.getQualifiedIdentifier().toString();
        rule("rule 4: import " + imported, !tree.isStatic() && TYPES.contains(imported), tree);
        return null;
    }

    @Override
    public Void visitMethodInvocation(MethodInvocationTree tree, Void unused) {
        Element called = element();
        if (isOwn(called)) {
            calls.computeIfAbsent(caller, any -> new TreeSet<>()).add(called.getEnclosingElement() + "." + called);
        } else if (called.getKind() != ElementKind.CONSTRUCTOR) {
            String name = called.getEnclosingElement() + "." + called.getSimpleName();
            rule("rule 4: " + name, LIBRARY.contains(name), tree);
        }
        return super.visitMethodInvocation(tree, unused);
    }

    @Override
    public Void visitNewClass(NewClassTree tree, Void unused) {
        Element made = element();
        boolean thrown = getCurrentPath().getParentPath().getLeaf() instanceof ThrowTree;
        rule("rule 4: new " + tree.getIdentifier(), isOwn(made) || thrown, tree);
        rule("rule 12: no object is made but in the constructor", thrown || caller.isEmpty(), tree);
        return super.visitNewClass(tree, unused);
    }

    // ---- exceptions

    @Override
    public Void visitThrow(ThrowTree tree, Void unused) {
        ExpressionTree thrown = tree.getExpression();
        boolean written = thrown instanceof NewClassTree made && made.getArguments().size() <= 1
                && made.getArguments().stream().allMatch(text -> text instanceof LiteralTree);
        rule("rule 6: throw new E(\"a written text\")", written, tree);
        rule("rule 6: no throw in a constructor", !isInConstructor(), tree);
        return super.visitThrow(tree, unused);
    }

    private boolean isInConstructor() {
        for (TreePath path = getCurrentPath(); path != null; path = path.getParentPath()) {
            if (path.getLeaf() instanceof MethodTree method) {
                return method.getReturnType() == null;
            }
        }
        return false;
    }

    @Override
    public Void visitTry(TryTree tree, Void unused) {
        rule("rule 6: no try, which the class does not need", false, tree);
        return super.visitTry(tree, unused);
    }

    // ---- what is not allowed at all

    @Override
    public Void visitBinary(BinaryTree tree, Void unused) {
        mathOf(tree);
        return super.visitBinary(tree, unused);
    }

    @Override
    public Void visitCompoundAssignment(CompoundAssignmentTree tree, Void unused) {
        mathOf(tree);
        return super.visitCompoundAssignment(tree, unused);
    }

    private void mathOf(Tree tree) {
        TypeMirror type = trees.getTypeMirror(getCurrentPath());
        rule("rule 10: texts are not joined by +", type != null && type.getKind() != TypeKind.DECLARED, tree);
        rule("rule 7: no divisor, which the class does not need", !DIVISIONS.contains(tree.getKind()), tree);
    }

    @Override
    public Void visitLambdaExpression(LambdaExpressionTree tree, Void unused) {
        rule("rule 2: no lambda", false, tree);
        return super.visitLambdaExpression(tree, unused);
    }

    @Override
    public Void visitMemberReference(MemberReferenceTree tree, Void unused) {
        rule("rule 2: no method reference", false, tree);
        return super.visitMemberReference(tree, unused);
    }

    @Override
    public Void visitSynchronized(SynchronizedTree tree, Void unused) {
        rule("rule 6: no synchronized", false, tree);
        return super.visitSynchronized(tree, unused);
    }

    @Override
    public Void visitAssert(AssertTree tree, Void unused) {
        rule("rule 6: no assert", false, tree);
        return super.visitAssert(tree, unused);
    }
}
