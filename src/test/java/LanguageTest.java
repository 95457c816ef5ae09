import com.sun.source.tree.AssertTree;
import com.sun.source.tree.BinaryTree;
import com.sun.source.tree.ClassTree;
import com.sun.source.tree.CompilationUnitTree;
import com.sun.source.tree.CompoundAssignmentTree;
import com.sun.source.tree.DoWhileLoopTree;
import com.sun.source.tree.ForLoopTree;
import com.sun.source.tree.ImportTree;
import com.sun.source.tree.InstanceOfTree;
import com.sun.source.tree.LambdaExpressionTree;
import com.sun.source.tree.MemberReferenceTree;
import com.sun.source.tree.MethodInvocationTree;
import com.sun.source.tree.MethodTree;
import com.sun.source.tree.NewArrayTree;
import com.sun.source.tree.NewClassTree;
import com.sun.source.tree.SynchronizedTree;
import com.sun.source.tree.ThrowTree;
import com.sun.source.tree.Tree;
import com.sun.source.tree.TryTree;
import com.sun.source.tree.VariableTree;
import com.sun.source.tree.WhileLoopTree;
import com.sun.source.util.JavacTask;
import com.sun.source.util.SourcePositions;
import com.sun.source.util.TreePath;
import com.sun.source.util.TreePathScanner;
import com.sun.source.util.Trees;
import java.io.IOException;
import java.nio.file.Path;
import java.util.ArrayList;
import java.util.HashMap;
import java.util.HashSet;
import java.util.List;
import java.util.Map;
import java.util.Set;
import java.util.TreeSet;
import javax.lang.model.element.Element;
import javax.lang.model.element.ElementKind;
import javax.lang.model.element.Modifier;
import javax.lang.model.type.ArrayType;
import javax.lang.model.type.TypeKind;
import javax.lang.model.type.TypeMirror;
import javax.tools.JavaCompiler;
import javax.tools.StandardJavaFileManager;
import javax.tools.ToolProvider;

/** The source keeps to LANGUAGE.md, rule by rule, as the compiler reads it (rule 1 is FaceTest's, rule 7 WildTest's). */
public final class LanguageTest extends TreePathScanner<Void, String> {
    private static final Set<String> LIBRARY = Set.of("java.lang.Math.abs(int)", "java.lang.Math.max(int,int)",
        "java.lang.Math.min(int,int)", "java.lang.Integer.bitCount(int)", "java.lang.String.length()",
        "java.lang.String.charAt(int)", "java.util.Arrays.fill(int[],int)", "java.util.Arrays.fill(long[],long)",
        "java.lang.System.arraycopy(java.lang.Object,int,java.lang.Object,int,int)");
    private static final int DEEPEST = 8;

    private final Trees trees;
    private final SourcePositions positions;
    private final CompilationUnitTree unit;
    private final Map<String, Set<String>> calls = new HashMap<>();
    private int classes;

    private LanguageTest(Trees trees, CompilationUnitTree unit) {
        this.trees = trees;
        this.positions = trees.getSourcePositions();
        this.unit = unit;
    }

    public static void main(String[] args) throws IOException {
        JavaCompiler compiler = ToolProvider.getSystemJavaCompiler();
        try (StandardJavaFileManager files = compiler.getStandardFileManager(null, null, null)) {
            JavacTask task = (JavacTask) compiler.getTask(null, files, null, List.of("-proc:none"), null,
                files.getJavaFileObjects(Path.of("src/main/java/IcicleClock.java")));
            List<CompilationUnitTree> units = new ArrayList<>();
            task.parse().forEach(units::add);
            task.analyze();
            Due.due("one file", units.size(), 1);
            LanguageTest test = new LanguageTest(Trees.instance(task), units.get(0));
            test.scan(units.get(0), "");
            test.whole();
        }
        Due.finish();
    }

    private void whole() {
        Due.due("no package line", unit.getPackage() == null ? 1 : 0, 1);
        for (ImportTree imported : unit.getImports()) {
            Due.due("rule 4: import " + imported, imported.toString().trim().equals("import java.util.Arrays;") ? 1 : 0, 1);
        }
        Due.due("rule 11: some twelve classes, here " + classes, classes <= 12 ? 1 : 0, 1);
        for (String method : calls.keySet()) {
            int depth = depthOf(method, new HashSet<>());
            Due.due("rules 8, 11: calls behind " + method + " go " + depth + " deep", depth <= DEEPEST ? 1 : 0, 1);
        }
        Due.due("methods were found", calls.size() > 100 ? 1 : 0, 1);
    }

    /** A method that comes to itself again is as deep as can be: the class needs no recursion. */
    private int depthOf(String method, Set<String> open) {
        if (!open.add(method)) {
            return 1000;
        }
        int deepest = 0;
        for (String called : calls.getOrDefault(method, Set.of())) {
            deepest = Math.max(deepest, depthOf(called, open));
        }
        open.remove(method);
        return deepest + 1;
    }

    private void refuse(int rule, Tree tree) {
        long line = unit.getLineMap().getLineNumber(positions.getStartPosition(unit, tree));
        Due.due("rule " + rule + " rules out, at line " + line + ": " + tree.getKind(), 1, 0);
    }

    private void hold(int rule, Tree tree, boolean holds) {
        if (!holds) {
            refuse(rule, tree);
        }
    }

    @Override
    public Void visitClass(ClassTree tree, String method) {
        classes++;
        boolean inside = getCurrentPath().getParentPath().getLeaf().getKind() != Tree.Kind.COMPILATION_UNIT;
        Set<Modifier> modifiers = tree.getModifiers().getFlags();
        Due.due("rule 2: " + tree.getSimpleName(), !inside || modifiers.contains(Modifier.STATIC)
            && modifiers.contains(Modifier.PRIVATE) && method.isEmpty() ? 1 : 0, 1);
        int fields = 0;
        for (Tree member : tree.getMembers()) {
            boolean constant = member instanceof VariableTree
                && ((VariableTree) member).getModifiers().getFlags().contains(Modifier.STATIC);
            fields += member instanceof VariableTree && !constant ? 1 : 0;
            hold(5, member, member.getKind() != Tree.Kind.BLOCK);
        }
        Due.due("rule 11: some twenty fields of " + tree.getSimpleName(), fields <= 20 ? 1 : 0, 1);
        return super.visitClass(tree, method);
    }

    @Override
    public Void visitMethod(MethodTree tree, String method) {
        String name = nameOf(trees.getElement(getCurrentPath()));
        calls.putIfAbsent(name, new TreeSet<>());
        Due.due("rule 11: parameters of " + name, tree.getParameters().size() <= 7 ? 1 : 0, 1);
        long first = unit.getLineMap().getLineNumber(positions.getStartPosition(unit, tree));
        long last = first;
        if (positions.getEndPosition(unit, tree) > positions.getStartPosition(unit, tree)) {
            last = unit.getLineMap().getLineNumber(positions.getEndPosition(unit, tree));
        }
        Due.due("rule 11: lines of " + name, last - first < 60 ? 1 : 0, 1);
        return super.visitMethod(tree, name);
    }

    private static String nameOf(Element element) {
        return element.getEnclosingElement() + "." + element;
    }

    @Override
    public Void visitMethodInvocation(MethodInvocationTree tree, String method) {
        noteCall(trees.getElement(new TreePath(getCurrentPath(), tree.getMethodSelect())), tree, method);
        return super.visitMethodInvocation(tree, method);
    }

    private void noteCall(Element called, Tree tree, String method) {
        String name = nameOf(called);
        if (name.startsWith("IcicleClock")) {
            calls.computeIfAbsent(method, key -> new TreeSet<>()).add(name);
        } else {
            boolean chained = name.equals("java.lang.Object.Object()");
            Due.due("rule 4: " + name, chained || LIBRARY.contains(name) ? 1 : 0, 1);
        }
    }

    /** Rule 12 lets any method make objects; this class makes them with the object alone. */
    @Override
    public Void visitNewClass(NewClassTree tree, String method) {
        hold(2, tree, tree.getClassBody() == null);
        hold(12, tree, isMaking(method));
        noteCall(trees.getElement(getCurrentPath()), tree, method);
        return super.visitNewClass(tree, method);
    }

    @Override
    public Void visitNewArray(NewArrayTree tree, String method) {
        hold(12, tree, isMaking(method));
        return super.visitNewArray(tree, method);
    }

    /** A field's own first value is no method's; a constructor is named as its class. */
    private static boolean isMaking(String method) {
        return method.isEmpty() || method.equals("IcicleClock.IcicleClock()");
    }

    @Override
    public Void visitVariable(VariableTree tree, String method) {
        Element element = trees.getElement(getCurrentPath());
        hold(3, tree, isOfTheLanguage(element.asType()));
        if (element.getModifiers().contains(Modifier.STATIC)) {
            TypeKind kind = element.asType().getKind();
            hold(5, tree, element.getModifiers().contains(Modifier.FINAL) && kind == TypeKind.INT);
        }
        boolean shown = element.getKind() == ElementKind.FIELD && element.getModifiers().contains(Modifier.PUBLIC);
        hold(1, tree, !shown || tree.getName().contentEquals("NONE"));
        return super.visitVariable(tree, method);
    }

    private static boolean isOfTheLanguage(TypeMirror type) {
        if (type.getKind() == TypeKind.ARRAY) {
            TypeMirror part = ((ArrayType) type).getComponentType();
            boolean two = part.getKind() == TypeKind.ARRAY && ((ArrayType) part).getComponentType().getKind().isPrimitive();
            return two || part.getKind() != TypeKind.ARRAY && isOfTheLanguage(part);
        }
        boolean broken = type.getKind() == TypeKind.DOUBLE || type.getKind() == TypeKind.FLOAT;
        boolean own = type.toString().startsWith("IcicleClock") || type.toString().equals("java.lang.String");
        return type.getKind().isPrimitive() && !broken || own;
    }

    @Override
    public Void visitBinary(BinaryTree tree, String method) {
        boolean texts = isText(tree.getLeftOperand()) || isText(tree.getRightOperand());
        hold(tree.getKind() == Tree.Kind.PLUS ? 10 : 6, tree, !texts);
        return super.visitBinary(tree, method);
    }

    private boolean isText(Tree tree) {
        TypeMirror type = trees.getTypeMirror(new TreePath(getCurrentPath(), tree));
        return type != null && type.toString().equals("java.lang.String");
    }

    @Override
    public Void visitCompoundAssignment(CompoundAssignmentTree tree, String method) {
        hold(10, tree, !isText(tree.getVariable()));
        return super.visitCompoundAssignment(tree, method);
    }

    /** A for-loop with no condition, or a loop whose condition is a constant, shows no end. */
    @Override
    public Void visitForLoop(ForLoopTree tree, String method) {
        hold(9, tree, tree.getCondition() instanceof BinaryTree && !tree.getUpdate().isEmpty());
        return super.visitForLoop(tree, method);
    }

    @Override
    public Void visitWhileLoop(WhileLoopTree tree, String method) {
        hold(9, tree, tree.getCondition().toString().contains(" < filled"));
        return super.visitWhileLoop(tree, method);
    }

    @Override
    public Void visitDoWhileLoop(DoWhileLoopTree tree, String method) {
        refuse(9, tree);
        return super.visitDoWhileLoop(tree, method);
    }

    @Override
    public Void visitLambdaExpression(LambdaExpressionTree tree, String method) {
        refuse(2, tree);
        return super.visitLambdaExpression(tree, method);
    }

    @Override
    public Void visitMemberReference(MemberReferenceTree tree, String method) {
        refuse(2, tree);
        return super.visitMemberReference(tree, method);
    }

    @Override
    public Void visitThrow(ThrowTree tree, String method) {
        refuse(6, tree);
        return super.visitThrow(tree, method);
    }

    @Override
    public Void visitTry(TryTree tree, String method) {
        refuse(6, tree);
        return super.visitTry(tree, method);
    }

    @Override
    public Void visitSynchronized(SynchronizedTree tree, String method) {
        refuse(6, tree);
        return super.visitSynchronized(tree, method);
    }

    @Override
    public Void visitAssert(AssertTree tree, String method) {
        refuse(6, tree);
        return super.visitAssert(tree, method);
    }

    @Override
    public Void visitInstanceOf(InstanceOfTree tree, String method) {
        refuse(6, tree);
        return super.visitInstanceOf(tree, method);
    }
}
