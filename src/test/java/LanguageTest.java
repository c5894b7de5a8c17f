import com.sun.source.tree.AssertTree;
import com.sun.source.tree.BinaryTree;
import com.sun.source.tree.ClassTree;
import com.sun.source.tree.CompilationUnitTree;
import com.sun.source.tree.CompoundAssignmentTree;
import com.sun.source.tree.ConditionalExpressionTree;
import com.sun.source.tree.DoWhileLoopTree;
import com.sun.source.tree.ExpressionTree;
import com.sun.source.tree.ForLoopTree;
import com.sun.source.tree.ImportTree;
import com.sun.source.tree.LambdaExpressionTree;
import com.sun.source.tree.LiteralTree;
import com.sun.source.tree.MemberReferenceTree;
import com.sun.source.tree.MethodInvocationTree;
import com.sun.source.tree.MethodTree;
import com.sun.source.tree.NewArrayTree;
import com.sun.source.tree.NewClassTree;
import com.sun.source.tree.SynchronizedTree;
import com.sun.source.tree.ThrowTree;
import com.sun.source.tree.Tree;
import com.sun.source.tree.TryTree;
import com.sun.source.tree.TypeCastTree;
import com.sun.source.tree.VariableTree;
import com.sun.source.tree.WhileLoopTree;
import com.sun.source.util.JavacTask;
import com.sun.source.util.TreePath;
import com.sun.source.util.TreePathScanner;
import com.sun.source.util.Trees;
import java.io.File;
import java.io.IOException;
import java.util.ArrayList;
import java.util.LinkedHashMap;
import java.util.LinkedHashSet;
import java.util.List;
import java.util.Map;
import java.util.Set;
import java.util.TreeSet;
import javax.lang.model.element.Element;
import javax.lang.model.element.ElementKind;
import javax.lang.model.element.Modifier;
import javax.lang.model.element.VariableElement;
import javax.lang.model.type.TypeMirror;
import javax.tools.JavaCompiler;
import javax.tools.StandardJavaFileManager;
import javax.tools.ToolProvider;

/**
 * Holds the class's source, read by the compiler, against the rules of ../shared/LANGUAGE.md that
 * can be seen in it. It is narrower than the rules where the class needs less than they leave: it
 * wants no try, no list and no object made outside a field's initialiser but for the exception.
 */
public final class LanguageTest extends TreePathScanner<Void, Void> {
    private static final File SOURCE = new File("src/main/java/PlaySearch.java");
    private static final int MOST_PARAMETERS = 7;
    private static final int MOST_LINES = 60;
    private static final int MOST_DEEP = 8;
    private static final int MOST_CLASSES = 12;
    private static final int MOST_FIELDS = 20;
    private static final Set<String> IMPORTS = Set.of("java.util.Arrays");
    private static final Set<String> LIBRARY = Set.of("java.util.Arrays.fill",
            "java.lang.System.arraycopy", "java.lang.Math.floorMod", "java.lang.Object.<init>");
    private static final Set<String> TYPES = Set.of("int", "long", "boolean", "int[]", "long[]",
            "boolean[]");

    private final Checks checks = new Checks("language");
    private final CompilationUnitTree unit;
    private final Trees trees;
    private final Map<Element, Set<Element>> calls = new LinkedHashMap<>();
    private final List<MethodTree> methods = new ArrayList<>();
    private int classes;

    private LanguageTest(CompilationUnitTree unit, Trees trees) {
        this.unit = unit;
        this.trees = trees;
    }

    public static void main(String[] args) throws IOException {
        JavaCompiler compiler = ToolProvider.getSystemJavaCompiler();
        StandardJavaFileManager files = compiler.getStandardFileManager(null, null, null);
        JavacTask task = (JavacTask) compiler.getTask(null, files, null,
                List.of("--release", "17"), null, files.getJavaFileObjects(SOURCE));
        CompilationUnitTree unit = task.parse().iterator().next();
        task.analyze();
        LanguageTest test = new LanguageTest(unit, Trees.instance(task));
        test.scan(unit, null);
        test.end();
    }

    private void due(int rule, String what, Tree at, boolean holds) {
        long start = trees.getSourcePositions().getStartPosition(unit, at);
        String line = "line " + unit.getLineMap().getLineNumber(start);
        checks.due("rule " + rule + ", " + line + ": " + what, holds, true);
    }

    private void end() {
        checks.due("rule 11: not more classes than some twelve", classes <= MOST_CLASSES, true);
        namesAreNotShared();
        for (Element method : calls.keySet()) {
            int depth = depthOf(method, new LinkedHashSet<>());
            checks.due("rule 11: " + method + " goes " + depth + " deep", depth <= MOST_DEEP, true);
        }
        checks.end();
    }

    private void namesAreNotShared() {
        Set<String> publicNames = new TreeSet<>();
        for (MethodTree method : methods) {
            if (method.getModifiers().getFlags().contains(Modifier.PUBLIC)) {
                publicNames.add(method.getName().toString());
            }
        }
        for (MethodTree method : methods) {
            boolean isMaker = method.getReturnType() == null;
            if (!isMaker && method.getModifiers().getFlags().contains(Modifier.PRIVATE)) {
                String name = method.getName().toString();
                due(1, name + " is no public name", method, !publicNames.contains(name));
            }
        }
    }

    /** The method itself is the first level; open are those that have called it. */
    private int depthOf(Element method, Set<Element> open) {
        boolean isOpen = !open.add(method);
        checks.due("rule 8: " + method + " calls itself", isOpen, false);
        if (isOpen) {
            return 0;
        }
        int deepest = 0;
        for (Element called : calls.getOrDefault(method, Set.of())) {
            deepest = Math.max(deepest, depthOf(called, open));
        }
        open.remove(method);
        return deepest + 1;
    }

    @Override
    public Void visitCompilationUnit(CompilationUnitTree node, Void none) {
        due(0, "no package line", node, node.getPackageName() == null);
        due(0, "one class", node, node.getTypeDecls().size() == 1);
        return super.visitCompilationUnit(node, none);
    }

    @Override
    public Void visitImport(ImportTree node, Void none) {
        String name = node.getQualifiedIdentifier().toString();
        due(4, "import of " + name, node, !node.isStatic() && IMPORTS.contains(name));
        return super.visitImport(node, none);
    }

    @Override
    public Void visitClass(ClassTree node, Void none) {
        classes++;
        Set<Modifier> flags = node.getModifiers().getFlags();
        boolean isOuter = getCurrentPath().getParentPath().getLeaf() == unit;
        boolean isHidden = !flags.contains(Modifier.PUBLIC) && !flags.contains(Modifier.PROTECTED);
        due(1, "a class inside is static and not public", node,
                isOuter || isHidden && flags.contains(Modifier.STATIC));
        int fields = 0;
        for (Tree member : node.getMembers()) {
            due(5, "no initialiser block", member, member.getKind() != Tree.Kind.BLOCK);
            boolean isField = member instanceof VariableTree field
                    && !field.getModifiers().getFlags().contains(Modifier.STATIC);
            fields += isField ? 1 : 0;
        }
        due(11, fields + " fields", node, fields <= MOST_FIELDS);
        return super.visitClass(node, none);
    }

    @Override
    public Void visitMethod(MethodTree node, Void none) {
        methods.add(node);
        calls.putIfAbsent(trees.getElement(getCurrentPath()), new LinkedHashSet<>());
        due(11, "parameters", node, node.getParameters().size() <= MOST_PARAMETERS);
        long start = trees.getSourcePositions().getStartPosition(unit, node);
        long end = trees.getSourcePositions().getEndPosition(unit, node);
        if (end >= 0) {
            long lines = unit.getLineMap().getLineNumber(end)
                    - unit.getLineMap().getLineNumber(start) + 1;
            due(11, lines + " lines", node, lines <= MOST_LINES);
        }
        return super.visitMethod(node, none);
    }

    @Override
    public Void visitVariable(VariableTree node, Void none) {
        Element element = trees.getElement(getCurrentPath());
        String type = element.asType().toString();
        due(3, "the type " + type, node, TYPES.contains(type) || type.startsWith("PlaySearch."));
        if (element.getModifiers().contains(Modifier.STATIC)) {
            Object value = ((VariableElement) element).getConstantValue();
            due(5, "a static field is a constant", node, value != null);
        }
        return super.visitVariable(node, none);
    }

    @Override
    public Void visitMethodInvocation(MethodInvocationTree node, Void none) {
        Element called = trees.getElement(getCurrentPath());
        String owner = called.getEnclosingElement().toString();
        if (owner.equals("PlaySearch") || owner.startsWith("PlaySearch.")) {
            calls.computeIfAbsent(methodHere(), one -> new LinkedHashSet<>()).add(called);
        } else {
            String name = owner + "." + called.getSimpleName();
            due(4, "a call of " + name, node, LIBRARY.contains(name));
        }
        return super.visitMethodInvocation(node, none);
    }

    private Element methodHere() {
        TreePath path = getCurrentPath();
        while (!(path.getLeaf() instanceof MethodTree) && path.getParentPath() != null) {
            path = path.getParentPath();
        }
        return trees.getElement(path);
    }

    private boolean isFieldMadeHere() {
        TreePath parent = getCurrentPath().getParentPath();
        return parent.getLeaf() instanceof VariableTree
                && trees.getElement(parent).getKind() == ElementKind.FIELD;
    }

    @Override
    public Void visitNewClass(NewClassTree node, Void none) {
        boolean isThrown = getCurrentPath().getParentPath().getLeaf() instanceof ThrowTree;
        due(12, "an object made outside a field", node, isThrown || isFieldMadeHere());
        due(2, "no body of its own", node, node.getClassBody() == null);
        return super.visitNewClass(node, none);
    }

    @Override
    public Void visitNewArray(NewArrayTree node, Void none) {
        due(12, "an array made outside a field", node, isFieldMadeHere());
        due(3, "one dimension", node, node.getDimensions().size() == 1);
        return super.visitNewArray(node, none);
    }

    /** Promise 22 names the one exception of the class, and queue throws it itself. */
    @Override
    public Void visitThrow(ThrowTree node, Void none) {
        boolean isQueue = methodHere().toString().equals("queue(int)");
        boolean isNamed = node.getExpression() instanceof NewClassTree made
                && made.getIdentifier().toString().equals("ArrayIndexOutOfBoundsException")
                && made.getArguments().size() == 1
                && made.getArguments().get(0).getKind() == Tree.Kind.STRING_LITERAL;
        due(6, "only queue throws, and what the document names", node, isQueue && isNamed);
        return super.visitThrow(node, none);
    }

    @Override
    public Void visitTry(TryTree node, Void none) {
        due(6, "no try", node, false);
        return super.visitTry(node, none);
    }

    @Override
    public Void visitSynchronized(SynchronizedTree node, Void none) {
        due(6, "no synchronized", node, false);
        return super.visitSynchronized(node, none);
    }

    @Override
    public Void visitAssert(AssertTree node, Void none) {
        due(6, "no assert", node, false);
        return super.visitAssert(node, none);
    }

    @Override
    public Void visitLambdaExpression(LambdaExpressionTree node, Void none) {
        due(2, "no lambda", node, false);
        return super.visitLambdaExpression(node, none);
    }

    @Override
    public Void visitMemberReference(MemberReferenceTree node, Void none) {
        due(2, "no method reference", node, false);
        return super.visitMemberReference(node, none);
    }

    @Override
    public Void visitTypeCast(TypeCastTree node, Void none) {
        TypeMirror type = trees.getTypeMirror(new TreePath(getCurrentPath(), node.getType()));
        due(7, "a cast among numbers", node, type.getKind().isPrimitive());
        return super.visitTypeCast(node, none);
    }

    @Override
    public Void visitBinary(BinaryTree node, Void none) {
        TypeMirror type = trees.getTypeMirror(getCurrentPath());
        due(10, "numbers and truths alone", node, type.getKind().isPrimitive());
        if (node.getKind() == Tree.Kind.DIVIDE || node.getKind() == Tree.Kind.REMAINDER) {
            due(7, "a divisor is looked at", node, isLookedAt(node.getRightOperand()));
        }
        return super.visitBinary(node, none);
    }

    @Override
    public Void visitCompoundAssignment(CompoundAssignmentTree node, Void none) {
        Tree.Kind kind = node.getKind();
        due(7, "no division in an assignment", node, kind != Tree.Kind.DIVIDE_ASSIGNMENT
                && kind != Tree.Kind.REMAINDER_ASSIGNMENT);
        return super.visitCompoundAssignment(node, none);
    }

    /** A constant other than 0, or tested against 0 where it divides. */
    private boolean isLookedAt(ExpressionTree divisor) {
        if (divisor instanceof LiteralTree literal) {
            return ((Number) literal.getValue()).longValue() != 0;
        }
        Element element = trees.getElement(new TreePath(getCurrentPath(), divisor));
        if (element instanceof VariableElement variable && variable.getConstantValue() != null) {
            return ((Number) variable.getConstantValue()).longValue() != 0;
        }
        return getCurrentPath().getParentPath().getLeaf() instanceof ConditionalExpressionTree test
                && test.getCondition().toString().replaceAll("[()]", "").equals(divisor + " > 0");
    }

    @Override
    public Void visitForLoop(ForLoopTree node, Void none) {
        due(9, "a loop with a bound and a counter", node,
                node.getCondition() != null && node.getUpdate().size() == 1);
        return super.visitForLoop(node, none);
    }

    @Override
    public Void visitWhileLoop(WhileLoopTree node, Void none) {
        due(9, "no while, whose end its own lines would have to show", node, false);
        return super.visitWhileLoop(node, none);
    }

    @Override
    public Void visitDoWhileLoop(DoWhileLoopTree node, Void none) {
        due(9, "no do, whose end its own lines would have to show", node, false);
        return super.visitDoWhileLoop(node, none);
    }
}
