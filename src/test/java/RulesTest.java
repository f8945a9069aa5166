import com.sun.source.tree.BinaryTree;
import com.sun.source.tree.BlockTree;
import com.sun.source.tree.ClassTree;
import com.sun.source.tree.CompilationUnitTree;
import com.sun.source.tree.DoWhileLoopTree;
import com.sun.source.tree.ExpressionTree;
import com.sun.source.tree.ForLoopTree;
import com.sun.source.tree.LineMap;
import com.sun.source.tree.MethodInvocationTree;
import com.sun.source.tree.MethodTree;
import com.sun.source.tree.NewArrayTree;
import com.sun.source.tree.NewClassTree;
import com.sun.source.tree.Tree;
import com.sun.source.tree.VariableTree;
import com.sun.source.tree.WhileLoopTree;
import com.sun.source.util.JavacTask;
import com.sun.source.util.TreePath;
import com.sun.source.util.TreePathScanner;
import com.sun.source.util.Trees;
import java.io.File;
import java.io.IOException;
import java.util.ArrayDeque;
import java.util.Deque;
import java.util.HashMap;
import java.util.HashSet;
import java.util.LinkedHashSet;
import java.util.List;
import java.util.Map;
import java.util.Set;
import javax.lang.model.element.Element;
import javax.lang.model.element.ElementKind;
import javax.lang.model.element.ExecutableElement;
import javax.lang.model.element.Modifier;
import javax.lang.model.type.TypeKind;
import javax.lang.model.type.TypeMirror;
import javax.tools.JavaCompiler;
import javax.tools.StandardJavaFileManager;
import javax.tools.ToolProvider;

/** The rules of LANGUAGE.md on the program as the compiler reads it: each kind of tree, type and call that is in it. */
public final class RulesTest extends TreePathScanner<Void, Void> {
    private static final Set<Tree.Kind> FORBIDDEN = Set.of(Tree.Kind.THROW, Tree.Kind.TRY, Tree.Kind.CATCH, Tree.Kind.SYNCHRONIZED, Tree.Kind.ASSERT,
        Tree.Kind.LAMBDA_EXPRESSION, Tree.Kind.MEMBER_REFERENCE, Tree.Kind.ANNOTATION, Tree.Kind.ENUM, Tree.Kind.INTERFACE, Tree.Kind.RECORD,
        Tree.Kind.INSTANCE_OF, Tree.Kind.PACKAGE, Tree.Kind.MODULE, Tree.Kind.SWITCH_EXPRESSION, Tree.Kind.YIELD, Tree.Kind.DOUBLE_LITERAL,
        Tree.Kind.FLOAT_LITERAL, Tree.Kind.NULL_LITERAL);
    private static final Set<String> TYPES = Set.of("int", "long", "byte", "boolean", "char", "int[]", "long[]", "byte[]", "boolean[]", "int[][]",
        "java.lang.String");
    private static final Set<String> LIBRARY = Set.of("java.lang.String.length", "java.lang.String.charAt", "java.lang.String.indexOf",
        "java.lang.Math.min", "java.lang.Math.max", "java.lang.System.arraycopy", "java.util.Arrays.fill", "java.lang.Object.<init>");

    private final Trees trees;
    private final CompilationUnitTree unit;
    private final LineMap lines;
    private final Map<Element, Set<Element>> calls = new HashMap<>();
    private final Deque<Element> methods = new ArrayDeque<>();
    private final Map<Element, Integer> depths = new HashMap<>();
    private int classes = 0;
    private int longest = 0;

    private RulesTest(Trees trees, CompilationUnitTree unit) {
        this.trees = trees;
        this.unit = unit;
        this.lines = unit.getLineMap();
    }

    public static void main(String[] args) throws IOException {
        JavaCompiler compiler = ToolProvider.getSystemJavaCompiler();
        try (StandardJavaFileManager files = compiler.getStandardFileManager(null, null, null)) {
            JavacTask task = (JavacTask) compiler.getTask(null, files, null, List.of("-proc:none"), null,
                files.getJavaFileObjects(new File("src/main/java/SlabWalk.java")));
            CompilationUnitTree unit = task.parse().iterator().next();
            task.analyze();
            RulesTest rules = new RulesTest(Trees.instance(task), unit);
            rules.scan(unit, null);
            rules.wholes();
        }
        Due.finish();
    }

    private String at(Tree tree) {
        return "line " + lines.getLineNumber(trees.getSourcePositions().getStartPosition(unit, tree));
    }

    private void never(String what, Tree tree) {
        Due.due(what + " in " + at(tree), true, false);
    }

    @Override
    public Void scan(Tree tree, Void none) {
        if (tree != null && FORBIDDEN.contains(tree.getKind())) {
            never("rules 2, 3, 6: " + tree.getKind(), tree);
        }
        return super.scan(tree, none);
    }

    @Override
    public Void visitClass(ClassTree tree, Void none) {
        classes++;
        Set<Modifier> modifiers = tree.getModifiers().getFlags();
        boolean inside = getCurrentPath().getParentPath().getLeaf() instanceof ClassTree;
        boolean top = getCurrentPath().getParentPath().getLeaf() == unit;
        Due.due("rule 2: no local class in " + at(tree), inside || top, true);
        Due.due("rule 2: static and final in " + at(tree), modifiers.contains(Modifier.FINAL) && (top || modifiers.contains(Modifier.STATIC)), true);
        int fields = 0;
        for (Tree member : tree.getMembers()) {
            if (member instanceof VariableTree field) {
                boolean isStatic = field.getModifiers().getFlags().contains(Modifier.STATIC);
                fields += isStatic ? 0 : 1;
                Due.due("rule 5: a constant in " + at(field), !isStatic || isConstant(field), true);
            }
            Due.due("rule 5: no initialiser block in " + at(member), member instanceof BlockTree, false);
        }
        Due.due("rule 11: fields in " + at(tree), fields <= 20, true);
        return super.visitClass(tree, none);
    }

    private static boolean isConstant(VariableTree field) {
        Set<String> types = Set.of("int", "long", "boolean", "char", "String");
        return field.getModifiers().getFlags().contains(Modifier.FINAL) && field.getInitializer() != null && types.contains(field.getType().toString());
    }

    @Override
    public Void visitVariable(VariableTree tree, Void none) {
        TypeMirror type = trees.getTypeMirror(getCurrentPath());
        Due.due("rule 3: type " + type + " in " + at(tree), TYPES.contains(type.toString()) || type.toString().startsWith("SlabWalk."), true);
        return super.visitVariable(tree, none);
    }

    @Override
    public Void visitMethod(MethodTree tree, Void none) {
        long from = lines.getLineNumber(trees.getSourcePositions().getStartPosition(unit, tree));
        long to = lines.getLineNumber(trees.getSourcePositions().getEndPosition(unit, tree));
        longest = Math.max(longest, (int) (to - from + 1));
        Due.due("rule 11: at most 60 lines from " + at(tree), to - from < 60, true);
        Due.due("rule 11: at most seven parameters in " + at(tree), tree.getParameters().size() <= 7, true);
        Element method = trees.getElement(getCurrentPath());
        calls.putIfAbsent(method, new LinkedHashSet<>());
        methods.push(method);
        super.visitMethod(tree, none);
        methods.pop();
        return null;
    }

    private void called(Element method, Tree tree) {
        String name = method.getEnclosingElement() + "." + method.getSimpleName();
        boolean own = method.getEnclosingElement().toString().startsWith("SlabWalk");
        Due.due("rule 4: " + name + " in " + at(tree), own || LIBRARY.contains(name), true);
        if (own && !methods.isEmpty()) {
            calls.get(methods.peek()).add(method);
        }
    }

    @Override
    public Void visitMethodInvocation(MethodInvocationTree tree, Void none) {
        called(trees.getElement(new TreePath(getCurrentPath(), tree.getMethodSelect())), tree);
        return super.visitMethodInvocation(tree, none);
    }

    @Override
    public Void visitNewClass(NewClassTree tree, Void none) {
        Due.due("rule 12: made in constructors and fields alone: " + at(tree), inConstructor(), true);
        Due.due("rule 2: no anonymous class in " + at(tree), tree.getClassBody() == null, true);
        called(trees.getElement(getCurrentPath()), tree);
        return super.visitNewClass(tree, none);
    }

    @Override
    public Void visitNewArray(NewArrayTree tree, Void none) {
        Due.due("rule 12: made in constructors and fields alone: " + at(tree), inConstructor(), true);
        return super.visitNewArray(tree, none);
    }

    private boolean inConstructor() {
        return methods.isEmpty() || methods.peek().getKind() == ElementKind.CONSTRUCTOR;
    }

    @Override
    public Void visitBinary(BinaryTree tree, Void none) {
        TypeMirror type = trees.getTypeMirror(getCurrentPath());
        Due.due("rule 10: no texts joined by + in " + at(tree), type.getKind() == TypeKind.DECLARED, false);
        boolean compares = tree.getKind() == Tree.Kind.EQUAL_TO || tree.getKind() == Tree.Kind.NOT_EQUAL_TO;
        TypeMirror left = trees.getTypeMirror(new TreePath(getCurrentPath(), tree.getLeftOperand()));
        Due.due("rule 6: numbers alone are compared in " + at(tree), compares && left.getKind() == TypeKind.DECLARED, false);
        return super.visitBinary(tree, none);
    }

    /** A loop that only goes on while something compares, and is not told to go on for ever. */
    private void loop(ExpressionTree condition, Tree tree) {
        Due.due("rule 9: a bound in " + at(tree), condition != null && condition.toString().matches(".*[<>].*"), true);
    }

    @Override
    public Void visitForLoop(ForLoopTree tree, Void none) {
        loop(tree.getCondition(), tree);
        return super.visitForLoop(tree, none);
    }

    @Override
    public Void visitWhileLoop(WhileLoopTree tree, Void none) {
        loop(tree.getCondition(), tree);
        return super.visitWhileLoop(tree, none);
    }

    @Override
    public Void visitDoWhileLoop(DoWhileLoopTree tree, Void none) {
        loop(tree.getCondition(), tree);
        return super.visitDoWhileLoop(tree, none);
    }

    private void wholes() {
        Due.due("rule 11: classes, " + classes, classes <= 12, true);
        int deepest = 0;
        for (Element method : calls.keySet()) {
            deepest = Math.max(deepest, depth(method));
            if (comesBack(method)) {
                boolean guarded = method.getSimpleName().toString().startsWith("pass") && lastIsDepth((ExecutableElement) method);
                Due.due("rule 8: " + method + " carries its depth", guarded, true);
                Due.due("rule 8: " + method + " is private", method.getModifiers().contains(Modifier.PRIVATE), true);
            }
        }
        System.out.println(classes + " classes, calls " + deepest + " deep, the longest method has " + longest + " lines");
        Due.due("rule 11: calls that are no recursion, " + deepest + " deep", deepest <= 8, true);
    }

    private static boolean lastIsDepth(ExecutableElement method) {
        int size = method.getParameters().size();
        return size > 0 && method.getParameters().get(size - 1).getSimpleName().contentEquals("depth");
    }

    private Set<Element> reached(Element from) {
        Set<Element> seen = new HashSet<>();
        Deque<Element> open = new ArrayDeque<>(calls.getOrDefault(from, Set.of()));
        while (!open.isEmpty()) {
            Element next = open.pop();
            if (seen.add(next)) {
                open.addAll(calls.getOrDefault(next, Set.of()));
            }
        }
        return seen;
    }

    private boolean comesBack(Element method) {
        return reached(method).contains(method);
    }

    /** How many calls can stand open at once from here on, those that come back to themselves counted as one. */
    private int depth(Element method) {
        Integer known = depths.get(method);
        if (known != null) {
            return known;
        }
        Set<Element> round = new HashSet<>(Set.of(method));
        for (Element other : reached(method)) {
            if (reached(other).contains(method)) {
                round.add(other);
            }
        }
        int below = 0;
        for (Element one : round) {
            for (Element next : calls.getOrDefault(one, Set.of())) {
                below = Math.max(below, round.contains(next) ? 0 : depth(next));
            }
        }
        depths.put(method, below + 1);
        return below + 1;
    }
}
