import com.sun.source.tree.BinaryTree;
import com.sun.source.tree.CatchTree;
import com.sun.source.tree.ClassTree;
import com.sun.source.tree.CompilationUnitTree;
import com.sun.source.tree.CompoundAssignmentTree;
import com.sun.source.tree.ConditionalExpressionTree;
import com.sun.source.tree.ExpressionTree;
import com.sun.source.tree.LambdaExpressionTree;
import com.sun.source.tree.LiteralTree;
import com.sun.source.tree.MemberReferenceTree;
import com.sun.source.tree.MethodInvocationTree;
import com.sun.source.tree.MethodTree;
import com.sun.source.tree.NewClassTree;
import com.sun.source.tree.Tree;
import com.sun.source.tree.VariableTree;
import com.sun.source.util.JavacTask;
import com.sun.source.util.TreePath;
import com.sun.source.util.TreePathScanner;
import com.sun.source.util.Trees;
import java.io.File;
import java.util.ArrayList;
import java.util.HashSet;
import java.util.List;
import java.util.Map;
import java.util.Set;
import java.util.TreeMap;
import java.util.TreeSet;
import javax.lang.model.element.Element;
import javax.lang.model.element.Modifier;
import javax.tools.JavaCompiler;
import javax.tools.StandardJavaFileManager;
import javax.tools.ToolProvider;

/** Those rules of LANGUAGE.md that a look at the program's tree can check. */
public final class LanguageTest extends TreePathScanner<Void, String> {
    private static final Set<String> LIBRARY = Set.of(
            "java.lang.String.length", "java.lang.String.charAt", "java.lang.String.equals",
            "java.lang.StringBuilder.append", "java.lang.StringBuilder.toString",
            "java.lang.Long.compare", "java.lang.Long.bitCount", "java.lang.Math.min", "java.lang.Math.max",
            "java.lang.System.arraycopy", "new java.lang.StringBuilder", "java.lang.Object.<init>",
            "new java.lang.IllegalStateException", "new java.lang.IllegalArgumentException",
            "new java.lang.IndexOutOfBoundsException", "new java.lang.ArithmeticException",
            "new java.util.NoSuchElementException");

    private static final Set<String> CONSTANTS = Set.of(
            "int", "long", "boolean", "char", "String", "int[]", "long[]", "char[]", "byte[]");

    private final CompilationUnitTree unit;
    private final Trees trees;
    private final Map<String, Set<String>> calls = new TreeMap<>();
    private final Set<String> privates = new HashSet<>();
    private int classes;

    private LanguageTest(CompilationUnitTree unit, Trees trees) {
        this.unit = unit;
        this.trees = trees;
    }

    public static void main(String[] args) throws Exception {
        JavaCompiler compiler = ToolProvider.getSystemJavaCompiler();
        StandardJavaFileManager files = compiler.getStandardFileManager(null, null, null);
        JavacTask task = (JavacTask) compiler.getTask(null, files, null, null, null,
                files.getJavaFileObjects(new File("src/main/java/ColumnTable.java")));
        CompilationUnitTree unit = task.parse().iterator().next();
        task.analyze();
        LanguageTest test = new LanguageTest(unit, Trees.instance(task));
        test.scan(unit, null);
        Check.due("some twelve classes", test.classes <= 12, true);
        test.checkDepth();
        Check.end();
    }

    private String nameOf(Element member) {
        return member.getEnclosingElement().getSimpleName() + "." + member.getSimpleName();
    }

    private void called(String caller) {
        Element member = trees.getElement(getCurrentPath());
        String full = member.getEnclosingElement() + "." + member.getSimpleName();
        boolean isNew = getCurrentPath().getLeaf() instanceof NewClassTree;
        if (full.startsWith("java.")) {
            String name = isNew ? "new " + member.getEnclosingElement() : full;
            Check.due("in the library: " + name, LIBRARY.contains(name), true);
        } else if (caller != null) {
            calls.get(caller).add(nameOf(member));
        }
    }

    private void banned(Tree tree) {
        Check.due("line " + unit.getLineMap().getLineNumber(trees.getSourcePositions().getStartPosition(unit, tree)),
                tree.getKind().toString(), "not used");
    }

    @Override
    public Void visitClass(ClassTree tree, String caller) {
        classes++;
        long fields = tree.getMembers().stream().filter(member -> member instanceof VariableTree
                && !((VariableTree) member).getModifiers().getFlags().contains(Modifier.STATIC)).count();
        Check.due("some twenty fields in " + tree.getSimpleName(), fields <= 20, true);
        return super.visitClass(tree, caller);
    }

    @Override
    public Void visitMethod(MethodTree tree, String caller) {
        String name = nameOf(trees.getElement(getCurrentPath()));
        long first = unit.getLineMap().getLineNumber(trees.getSourcePositions().getStartPosition(unit, tree));
        long last = unit.getLineMap().getLineNumber(trees.getSourcePositions().getEndPosition(unit, tree));
        Check.due(name + " has some sixty lines", last - first < 60, true);
        Check.due(name + " has seven parameters", tree.getParameters().size() <= 7, true);
        calls.putIfAbsent(name, new TreeSet<>());
        if (tree.getModifiers().getFlags().contains(Modifier.PRIVATE)) {
            privates.add(name);
        }
        return super.visitMethod(tree, name);
    }

    @Override
    public Void visitMethodInvocation(MethodInvocationTree tree, String caller) {
        called(caller);
        return super.visitMethodInvocation(tree, caller);
    }

    @Override
    public Void visitNewClass(NewClassTree tree, String caller) {
        called(caller);
        return super.visitNewClass(tree, caller);
    }

    @Override
    public Void visitVariable(VariableTree tree, String caller) {
        Set<Modifier> flags = tree.getModifiers().getFlags();
        if (flags.contains(Modifier.STATIC)) {
            Check.due("final: " + tree.getName(), flags.contains(Modifier.FINAL), true);
            Check.due("type of " + tree.getName(), CONSTANTS.contains(tree.getType().toString()), true);
        }
        return super.visitVariable(tree, caller);
    }

    @Override
    public Void visitBinary(BinaryTree tree, String caller) {
        String type = trees.getTypeMirror(getCurrentPath()).toString();
        boolean isRemainder = tree.getKind() == Tree.Kind.REMAINDER;
        boolean isWhole = type.equals("int") || type.equals("long");
        if (type.equals("java.lang.String") || isRemainder && !isWhole) {
            banned(tree);
        }
        boolean isDivision = isRemainder || tree.getKind() == Tree.Kind.DIVIDE;
        if (isDivision && isWhole && !isTested(tree.getRightOperand())) {
            banned(tree);
        }
        return super.visitBinary(tree, caller);
    }

    /** A divisor is a literal, or stands in "divisor == 0 ? .. : ..". */
    private boolean isTested(ExpressionTree divisor) {
        if (divisor instanceof LiteralTree) {
            return !divisor.toString().equals("0");
        }
        for (TreePath path = getCurrentPath(); path != null; path = path.getParentPath()) {
            if (path.getLeaf() instanceof ConditionalExpressionTree) {
                String condition = ((ConditionalExpressionTree) path.getLeaf()).getCondition().toString();
                return condition.equals("(" + divisor + " == 0)") || condition.equals(divisor + " == 0");
            }
        }
        return false;
    }

    @Override
    public Void visitCompoundAssignment(CompoundAssignmentTree tree, String caller) {
        if (tree.getKind() == Tree.Kind.REMAINDER_ASSIGNMENT || tree.getKind() == Tree.Kind.DIVIDE_ASSIGNMENT) {
            banned(tree);
        }
        return super.visitCompoundAssignment(tree, caller);
    }

    @Override
    public Void visitCatch(CatchTree tree, String caller) {
        banned(tree);
        return super.visitCatch(tree, caller);
    }

    @Override
    public Void visitLambdaExpression(LambdaExpressionTree tree, String caller) {
        banned(tree);
        return super.visitLambdaExpression(tree, caller);
    }

    @Override
    public Void visitMemberReference(MemberReferenceTree tree, String caller) {
        banned(tree);
        return super.visitMemberReference(tree, caller);
    }

    private void checkDepth() {
        Set<String> recursive = new HashSet<>();
        for (String method : calls.keySet()) {
            if (reached(method).contains(method)) {
                recursive.add(method);
                Check.due(method + ", a recursion, is private", privates.contains(method), true);
            }
        }
        for (String method : calls.keySet()) {
            Check.due("calls that are no recursion, from " + method + ", go at most eight deep",
                    depth(method, recursive, new ArrayList<>()) <= 8, true);
        }
    }

    private Set<String> reached(String from) {
        Set<String> result = new TreeSet<>();
        List<String> open = new ArrayList<>(List.of(from));
        while (!open.isEmpty()) {
            for (String next : calls.getOrDefault(open.remove(open.size() - 1), Set.of())) {
                if (result.add(next)) {
                    open.add(next);
                }
            }
        }
        return result;
    }

    private int depth(String method, Set<String> recursive, List<String> path) {
        int deepest = 0;
        path.add(method);
        for (String next : calls.getOrDefault(method, Set.of())) {
            if (!path.contains(next)) {
                deepest = Math.max(deepest, depth(next, recursive, path));
            }
        }
        path.remove(path.size() - 1);
        return deepest + (recursive.contains(method) ? 0 : 1);
    }
}
