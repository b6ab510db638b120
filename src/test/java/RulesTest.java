import com.sun.source.tree.AssertTree;
import com.sun.source.tree.BinaryTree;
import com.sun.source.tree.ClassTree;
import com.sun.source.tree.CompilationUnitTree;
import com.sun.source.tree.ImportTree;
import com.sun.source.tree.InstanceOfTree;
import com.sun.source.tree.LambdaExpressionTree;
import com.sun.source.tree.LiteralTree;
import com.sun.source.tree.MemberReferenceTree;
import com.sun.source.tree.MethodInvocationTree;
import com.sun.source.tree.MethodTree;
import com.sun.source.tree.NewArrayTree;
import com.sun.source.tree.NewClassTree;
import com.sun.source.tree.SynchronizedTree;
import com.sun.source.tree.ThrowTree;
import com.sun.source.tree.Tree;
import com.sun.source.tree.TryTree;
import com.sun.source.tree.TypeCastTree;
import com.sun.source.tree.VariableTree;
import com.sun.source.util.JavacTask;
import com.sun.source.util.TreePath;
import com.sun.source.util.TreePathScanner;
import com.sun.source.util.Trees;
import java.io.IOException;
import java.nio.file.Files;
import java.nio.file.Path;
import java.util.ArrayList;
import java.util.List;
import java.util.Map;
import java.util.Set;
import java.util.TreeMap;
import java.util.TreeSet;
import javax.lang.model.element.Element;
import javax.lang.model.element.Modifier;
import javax.lang.model.type.TypeMirror;
import javax.tools.JavaCompiler;
import javax.tools.StandardJavaFileManager;
import javax.tools.ToolProvider;

/** Those rules of LANGUAGE.md that can be counted in the source, and what the project keeps beyond them. */
public final class RulesTest extends TreePathScanner<Void, Void> {
    private static final Path SOURCE = Path.of("src", "main", "java", "HalfIsle.java");
    private static final int MOST_CLASSES = 12;
    private static final int MOST_FIELDS = 20;
    private static final int MOST_LINES = 60;
    private static final int MOST_PARAMETERS = 7;
    private static final int MOST_DEEP = 8;
    private static final Set<String> LIBRARY = Set.of("java.lang.Math.max", "java.lang.Math.min", "java.lang.Math.abs",
        "java.lang.Math.floorMod", "java.lang.Integer.bitCount", "java.lang.System.arraycopy",
        "java.lang.String.length", "java.lang.String.charAt");
    private static final Set<String> EXCEPTIONS = Set.of("IllegalArgumentException", "IndexOutOfBoundsException",
        "UnsupportedOperationException", "NoSuchElementException");
    private static final Set<String> STATICS = Set.of("int", "long", "boolean", "char", "java.lang.String", "int[]",
        "long[]", "char[]", "byte[]");

    private final CompilationUnitTree unit;
    private final Trees trees;
    private final Map<String, Set<String>> calls = new TreeMap<>();
    private int classes = 0;

    private RulesTest(CompilationUnitTree unit, Trees trees) {
        this.unit = unit;
        this.trees = trees;
    }

    public static void main(String[] args) throws IOException {
        JavaCompiler compiler = ToolProvider.getSystemJavaCompiler();
        StandardJavaFileManager files = compiler.getStandardFileManager(null, null, null);
        JavacTask task = (JavacTask) compiler.getTask(null, files, null, List.of("-proc:none"), null,
            files.getJavaFileObjects(SOURCE));
        List<CompilationUnitTree> units = new ArrayList<>();
        task.parse().forEach(units::add);
        task.analyze();
        RulesTest test = new RulesTest(units.get(0), Trees.instance(task));
        test.scan(units.get(0), null);
        test.ends();
        files.close();
    }

    private void ends() throws IOException {
        rule("signs 1 to 127", Files.readAllBytes(SOURCE), SOURCE.toString());
        rule(1, "no package, one class", unit.getPackage() == null && unit.getTypeDecls().size() == 1, unit);
        rule(11, "some twelve classes", classes <= MOST_CLASSES, unit);
        int deepest = 0;
        for (String method : calls.keySet()) {
            deepest = Math.max(deepest, deep(method, new ArrayList<>()));
        }
        rule(11, "at most eight deep, and these are " + deepest, deepest <= MOST_DEEP, unit);
        Checks.ends();
    }

    private void rule(String what, byte[] bytes, String where) {
        boolean plain = true;
        for (byte sign : bytes) {
            plain &= sign > 0;
        }
        Checks.is("rule 4, " + what + ", " + where, plain, true);
    }

    private void rule(int number, String what, boolean holds, Tree where) {
        long at = trees.getSourcePositions().getStartPosition(unit, where);
        String line = at < 0 ? "" : ", line " + unit.getLineMap().getLineNumber(at);
        Checks.is("rule " + number + ", " + what + line, holds, true);
    }

    /** How many calls are open at most when this one is the first; a call of itself is refused. */
    private int deep(String method, List<String> open) {
        boolean again = open.contains(method);
        rule(8, method + " calls itself", !again, unit);
        int most = 0;
        if (!again) {
            open.add(method);
            for (String called : calls.getOrDefault(method, Set.of())) {
                most = Math.max(most, deep(called, open));
            }
            open.remove(method);
        }
        return 1 + most;
    }

    @Override
    public Void visitImport(ImportTree tree, Void none) {
        String name = tree.getQualifiedIdentifier().toString();
        rule(4, "imports " + name, name.equals("java.util.NoSuchElementException"), tree);
        return super.visitImport(tree, none);
    }

    @Override
    public Void visitClass(ClassTree tree, Void none) {
        classes++;
        boolean inside = getCurrentPath().getParentPath().getLeaf() != unit;
        Set<Modifier> modifiers = tree.getModifiers().getFlags();
        rule(2, tree.getSimpleName() + " is static", !inside || modifiers.contains(Modifier.STATIC), tree);
        int fields = 0;
        for (Tree member : tree.getMembers()) {
            rule(5, "no block outside of methods", member.getKind() != Tree.Kind.BLOCK, member);
            if (member instanceof VariableTree field) {
                fields += field(field, new TreePath(getCurrentPath(), field));
            }
        }
        rule(11, tree.getSimpleName() + " has some twenty fields, and these are " + fields, fields <= MOST_FIELDS, tree);
        return super.visitClass(tree, none);
    }

    /** 1 of an object's field, 0 of a constant. */
    private int field(VariableTree tree, TreePath path) {
        Set<Modifier> modifiers = tree.getModifiers().getFlags();
        if (!modifiers.contains(Modifier.STATIC)) {
            return 1;
        }
        rule(5, tree.getName() + " is final", modifiers.contains(Modifier.FINAL), tree);
        rule(5, tree.getName() + " is a constant", STATICS.contains(trees.getTypeMirror(path).toString()), tree);
        return 0;
    }

    @Override
    public Void visitMethod(MethodTree tree, Void none) {
        long begin = trees.getSourcePositions().getStartPosition(unit, tree);
        long end = trees.getSourcePositions().getEndPosition(unit, tree);
        if (end > begin && begin >= 0) {
            long lines = unit.getLineMap().getLineNumber(end) - unit.getLineMap().getLineNumber(begin) + 1;
            rule(11, tree.getName() + " has some sixty lines, and these are " + lines, lines <= MOST_LINES, tree);
        }
        rule(11, tree.getName() + " has seven parameters", tree.getParameters().size() <= MOST_PARAMETERS, tree);
        calls.putIfAbsent(nameOf(trees.getElement(getCurrentPath())), new TreeSet<>());
        return super.visitMethod(tree, none);
    }

    @Override
    public Void visitMethodInvocation(MethodInvocationTree tree, Void none) {
        Element called = trees.getElement(getCurrentPath());
        MethodTree within = within();
        if (called != null && !called.getSimpleName().contentEquals("<init>")) {
            String name = nameOf(called);
            boolean own = name.startsWith("HalfIsle");
            rule(4, "calls " + name, own || LIBRARY.contains(name), tree);
            boolean made = within == null || within.getName().contentEquals("<init>");
            rule(12, "a constructor calls " + name, !made, tree);
            if (own && within != null) {
                String caller = nameOf(trees.getElement(TreePath.getPath(unit, within)));
                calls.computeIfAbsent(caller, k -> new TreeSet<>()).add(name);
            }
        }
        return super.visitMethodInvocation(tree, none);
    }

    private static String nameOf(Element method) {
        return method.getEnclosingElement() + "." + method.getSimpleName();
    }

    /** The method that this stands in, null of a field's. */
    private MethodTree within() {
        for (TreePath path = getCurrentPath(); path != null; path = path.getParentPath()) {
            if (path.getLeaf() instanceof MethodTree method) {
                return method;
            }
        }
        return null;
    }

    private boolean inConstructor() {
        MethodTree method = within();
        return method == null || method.getName().contentEquals("<init>");
    }

    @Override
    public Void visitThrow(ThrowTree tree, Void none) {
        rule(6, "throws one made there", tree.getExpression() instanceof NewClassTree, tree);
        rule(6, "no throw in a constructor", !inConstructor(), tree);
        return super.visitThrow(tree, none);
    }

    @Override
    public Void visitNewClass(NewClassTree tree, Void none) {
        boolean thrown = getCurrentPath().getParentPath().getLeaf() instanceof ThrowTree;
        if (thrown) {
            rule(6, "throws " + tree.getIdentifier(), EXCEPTIONS.contains(tree.getIdentifier().toString()), tree);
            boolean written = tree.getArguments().isEmpty()
                || tree.getArguments().size() == 1 && tree.getArguments().get(0) instanceof LiteralTree;
            rule(6, "with a written text", written, tree);
        } else {
            rule(12, "objects are made in constructors alone", inConstructor(), tree);
        }
        rule(2, "no anonymous class", tree.getClassBody() == null, tree);
        return super.visitNewClass(tree, none);
    }

    @Override
    public Void visitNewArray(NewArrayTree tree, Void none) {
        rule(12, "rows are made in constructors alone", inConstructor(), tree);
        return super.visitNewArray(tree, none);
    }

    @Override
    public Void visitTry(TryTree tree, Void none) {
        rule(6, "no try: nothing here is caught", false, tree);
        return super.visitTry(tree, none);
    }

    @Override
    public Void visitLambdaExpression(LambdaExpressionTree tree, Void none) {
        rule(2, "no lambda", false, tree);
        return super.visitLambdaExpression(tree, none);
    }

    @Override
    public Void visitMemberReference(MemberReferenceTree tree, Void none) {
        rule(2, "no method reference", false, tree);
        return super.visitMemberReference(tree, none);
    }

    @Override
    public Void visitSynchronized(SynchronizedTree tree, Void none) {
        rule(6, "no synchronized", false, tree);
        return super.visitSynchronized(tree, none);
    }

    @Override
    public Void visitAssert(AssertTree tree, Void none) {
        rule(6, "no assert", false, tree);
        return super.visitAssert(tree, none);
    }

    @Override
    public Void visitInstanceOf(InstanceOfTree tree, Void none) {
        rule(6, "no class to be tested", false, tree);
        return super.visitInstanceOf(tree, none);
    }

    @Override
    public Void visitTypeCast(TypeCastTree tree, Void none) {
        TypeMirror to = trees.getTypeMirror(getCurrentPath());
        rule(6, "casts to " + to, to != null && to.getKind().isPrimitive(), tree);
        return super.visitTypeCast(tree, none);
    }

    @Override
    public Void visitBinary(BinaryTree tree, Void none) {
        TypeMirror kind = trees.getTypeMirror(getCurrentPath());
        rule(10, "joins no texts by +", kind != null && kind.getKind().isPrimitive(), tree);
        return super.visitBinary(tree, none);
    }
}
