import com.sun.source.tree.AssertTree;
import com.sun.source.tree.BinaryTree;
import com.sun.source.tree.BlockTree;
import com.sun.source.tree.ClassTree;
import com.sun.source.tree.CompilationUnitTree;
import com.sun.source.tree.CompoundAssignmentTree;
import com.sun.source.tree.ForLoopTree;
import com.sun.source.tree.LambdaExpressionTree;
import com.sun.source.tree.MemberReferenceTree;
import com.sun.source.tree.MethodInvocationTree;
import com.sun.source.tree.MethodTree;
import com.sun.source.tree.NewArrayTree;
import com.sun.source.tree.NewClassTree;
import com.sun.source.tree.ParenthesizedTree;
import com.sun.source.tree.SynchronizedTree;
import com.sun.source.tree.ThrowTree;
import com.sun.source.tree.Tree;
import com.sun.source.tree.TryTree;
import com.sun.source.tree.VariableTree;
import com.sun.source.tree.WhileLoopTree;
import com.sun.source.util.JavacTask;
import com.sun.source.util.TreePath;
import com.sun.source.util.TreePathScanner;
import com.sun.source.util.Trees;
import java.io.IOException;
import java.nio.file.Path;
import java.util.ArrayDeque;
import java.util.ArrayList;
import java.util.Deque;
import java.util.HashMap;
import java.util.LinkedHashSet;
import java.util.List;
import java.util.Map;
import java.util.Set;
import javax.lang.model.element.Element;
import javax.lang.model.element.Modifier;
import javax.lang.model.element.TypeElement;
import javax.tools.JavaCompiler;
import javax.tools.StandardJavaFileManager;
import javax.tools.ToolProvider;

/**
 * The rules of LANGUAGE.md that can be seen in the program's own lines. Where the program needs less
 * than a rule leaves, the test asks for the less: no try, no division, no object made by a later call.
 */
public final class LanguageTest {
    private static final Path PROGRAM = Path.of("src/main/java/ZipGuard.java");
    private static final Set<String> EXCEPTIONS = Set.of(
            "IllegalStateException", "IllegalArgumentException", "IndexOutOfBoundsException");
    private static final Set<String> LIBRARY = Set.of("java.util.Arrays.fill", "java.lang.Object.<init>");
    private static final Set<String> TYPES = Set.of("int", "long", "boolean", "int[]", "byte[]");
    private static final Set<String> CONSTANT_TYPES = Set.of("int", "long", "boolean", "int[]");
    private static final int MOST_PARAMETERS = 7;
    private static final int MOST_LINES = 60;
    private static final int MOST_CLASSES = 12;
    private static final int MOST_FIELDS = 20;
    private static final int MOST_DEEP = 8;

    public static void main(String[] args) throws IOException {
        JavaCompiler compiler = ToolProvider.getSystemJavaCompiler();
        try (StandardJavaFileManager files = compiler.getStandardFileManager(null, null, null)) {
            JavacTask task = (JavacTask) compiler.getTask(
                    null, files, null, List.of("--release", "17", "-proc:none"), null,
                    files.getJavaFileObjects(PROGRAM));
            CompilationUnitTree unit = task.parse().iterator().next();
            task.analyze();
            Reader reader = new Reader(Trees.instance(task), unit);
            reader.scan(unit, null);
            reader.finish();
        }
        Checks.finish("LanguageTest");
    }

    private static void keeps(int rule, String what, boolean isKept) {
        Checks.due("rule " + rule + ": " + what, isKept ? 1 : 0, 1);
    }

    /** Walks through the program once, and keeps which method calls which. */
    private static final class Reader extends TreePathScanner<Void, Void> {
        private final Trees trees;
        private final CompilationUnitTree unit;
        private final Map<Element, Set<Element>> calls = new HashMap<>();
        private final Set<String> publicNames = new LinkedHashSet<>();
        private final List<String> privateNames = new ArrayList<>();
        private final Deque<MethodTree> around = new ArrayDeque<>();
        private int classes = 0;

        Reader(Trees trees, CompilationUnitTree unit) {
            this.trees = trees;
            this.unit = unit;
        }

        void finish() {
            keeps(1, "no package line", unit.getPackageName() == null);
            for (String name : privateNames) {
                keeps(1, "no private method bears the public name " + name, !publicNames.contains(name));
            }
            keeps(11, classes + " classes", classes <= MOST_CLASSES);
            for (Element method : calls.keySet()) {
                int deep = deepFrom(method, new ArrayDeque<>());
                keeps(11, "calls from " + method + " go " + deep + " deep", deep <= MOST_DEEP);
            }
        }

        private int deepFrom(Element method, Deque<Element> open) {
            boolean isRecursion = open.contains(method);
            keeps(8, method + " calls itself", !isRecursion);
            if (isRecursion) {
                return MOST_DEEP + 1;
            }
            open.push(method);
            int deepest = 0;
            for (Element called : calls.getOrDefault(method, Set.of())) {
                deepest = Math.max(deepest, deepFrom(called, open));
            }
            open.pop();
            return deepest + 1;
        }

        private Element element() {
            return trees.getElement(getCurrentPath());
        }

        private String where(Tree tree) {
            long line = unit.getLineMap().getLineNumber(trees.getSourcePositions().getStartPosition(unit, tree));
            return "line " + line;
        }

        private long linesOf(Tree tree) {
            long from = trees.getSourcePositions().getStartPosition(unit, tree);
            long to = trees.getSourcePositions().getEndPosition(unit, tree);
            return unit.getLineMap().getLineNumber(to) - unit.getLineMap().getLineNumber(from) + 1;
        }

        private boolean isInConstructor() {
            return !around.isEmpty() && around.peek().getReturnType() == null;
        }

        @Override
        public Void visitClass(ClassTree tree, Void none) {
            classes++;
            Set<Modifier> modifiers = tree.getModifiers().getFlags();
            boolean isInside = getCurrentPath().getParentPath().getLeaf() instanceof ClassTree;
            boolean isOutermost = getCurrentPath().getParentPath().getLeaf() instanceof CompilationUnitTree;
            String name = "class " + tree.getSimpleName();
            keeps(2, name + " is no local or anonymous class", isInside || isOutermost);
            boolean isHidden = modifiers.contains(Modifier.STATIC) && !modifiers.contains(Modifier.PUBLIC)
                    && !modifiers.contains(Modifier.PROTECTED);
            keeps(1, name + " inside is hidden and static", isOutermost || isHidden);
            int fields = 0;
            for (Tree member : tree.getMembers()) {
                boolean isField = member instanceof VariableTree field
                        && !field.getModifiers().getFlags().contains(Modifier.STATIC);
                fields += isField ? 1 : 0;
            }
            keeps(11, name + " has " + fields + " fields", fields <= MOST_FIELDS);
            return super.visitClass(tree, none);
        }

        @Override
        public Void visitMethod(MethodTree tree, Void none) {
            Set<Modifier> modifiers = tree.getModifiers().getFlags();
            String name = tree.getName().toString();
            if (modifiers.contains(Modifier.PUBLIC) && tree.getReturnType() != null) {
                publicNames.add(name);
            } else if (modifiers.contains(Modifier.PRIVATE)) {
                privateNames.add(name);
            }
            keeps(11, name + " takes at most seven", tree.getParameters().size() <= MOST_PARAMETERS);
            keeps(11, name + " has " + linesOf(tree) + " lines", linesOf(tree) <= MOST_LINES);
            calls.computeIfAbsent(element(), method -> new LinkedHashSet<>());
            around.push(tree);
            super.visitMethod(tree, none);
            around.pop();
            return null;
        }

        @Override
        public Void visitVariable(VariableTree tree, Void none) {
            Set<Modifier> modifiers = tree.getModifiers().getFlags();
            String type = element().asType().toString();
            keeps(3, tree.getName() + " is " + type, TYPES.contains(type) || type.startsWith("ZipGuard."));
            if (modifiers.contains(Modifier.STATIC)) {
                keeps(5, tree.getName() + " is final", modifiers.contains(Modifier.FINAL));
                keeps(5, tree.getName() + " is a constant", CONSTANT_TYPES.contains(tree.getType().toString()));
                keeps(5, tree.getName() + " is written out", tree.getInitializer() != null);
            }
            return super.visitVariable(tree, none);
        }

        @Override
        public Void visitBlock(BlockTree tree, Void none) {
            boolean isInitialiser = getCurrentPath().getParentPath().getLeaf() instanceof ClassTree;
            keeps(5, where(tree) + " is no initialiser block", !isInitialiser);
            return super.visitBlock(tree, none);
        }

        private void called(Tree tree, Element method) {
            TypeElement owner = (TypeElement) method.getEnclosingElement();
            String name = owner.getQualifiedName() + "." + method.getSimpleName();
            boolean isOwn = owner.getQualifiedName().toString().startsWith("ZipGuard");
            keeps(4, where(tree) + " calls " + name, isOwn || LIBRARY.contains(name));
            if (isOwn && !around.isEmpty()) {
                Element caller = trees.getElement(methodPath());
                calls.computeIfAbsent(caller, key -> new LinkedHashSet<>()).add(method);
            }
        }

        private TreePath methodPath() {
            TreePath path = getCurrentPath();
            while (!(path.getLeaf() instanceof MethodTree)) {
                path = path.getParentPath();
            }
            return path;
        }

        @Override
        public Void visitMethodInvocation(MethodInvocationTree tree, Void none) {
            called(tree, element());
            return super.visitMethodInvocation(tree, none);
        }

        @Override
        public Void visitNewClass(NewClassTree tree, Void none) {
            boolean isThrown = getCurrentPath().getParentPath().getLeaf() instanceof ThrowTree;
            if (isThrown) {
                keeps(6, where(tree) + " throws " + tree, EXCEPTIONS.contains(tree.getIdentifier().toString())
                        && tree.getArguments().isEmpty());
            } else {
                keeps(12, where(tree) + " makes an object in a constructor", isInConstructor());
                called(tree, element());
            }
            return super.visitNewClass(tree, none);
        }

        @Override
        public Void visitNewArray(NewArrayTree tree, Void none) {
            boolean isConstant = around.isEmpty();
            keeps(12, where(tree) + " makes a row in a constructor", isConstant || isInConstructor());
            return super.visitNewArray(tree, none);
        }

        @Override
        public Void visitThrow(ThrowTree tree, Void none) {
            keeps(6, where(tree) + " throws a new one", tree.getExpression() instanceof NewClassTree);
            keeps(6, where(tree) + " does not throw in a constructor", !isInConstructor());
            return super.visitThrow(tree, none);
        }

        @Override
        public Void visitBinary(BinaryTree tree, Void none) {
            boolean divides = tree.getKind() == Tree.Kind.DIVIDE || tree.getKind() == Tree.Kind.REMAINDER;
            keeps(7, where(tree) + " does not divide", !divides);
            String type = String.valueOf(trees.getTypeMirror(getCurrentPath()));
            keeps(10, where(tree) + " joins no texts by +", !type.equals("java.lang.String"));
            return super.visitBinary(tree, none);
        }

        @Override
        public Void visitCompoundAssignment(CompoundAssignmentTree tree, Void none) {
            boolean divides = tree.getKind() == Tree.Kind.DIVIDE_ASSIGNMENT
                    || tree.getKind() == Tree.Kind.REMAINDER_ASSIGNMENT;
            keeps(7, where(tree) + " does not divide", !divides);
            return super.visitCompoundAssignment(tree, none);
        }

        /** A bound is seen as a comparison; whether the counter reaches it is not looked at. */
        private static boolean isBound(Tree condition) {
            Tree bare = condition instanceof ParenthesizedTree inside ? inside.getExpression() : condition;
            return bare instanceof BinaryTree;
        }

        @Override
        public Void visitForLoop(ForLoopTree tree, Void none) {
            keeps(9, where(tree) + " has a bound", isBound(tree.getCondition()));
            return super.visitForLoop(tree, none);
        }

        @Override
        public Void visitWhileLoop(WhileLoopTree tree, Void none) {
            keeps(9, where(tree) + " has a bound", isBound(tree.getCondition()));
            return super.visitWhileLoop(tree, none);
        }

        @Override
        public Void visitTry(TryTree tree, Void none) {
            keeps(6, where(tree) + " has no try", false);
            return super.visitTry(tree, none);
        }

        @Override
        public Void visitLambdaExpression(LambdaExpressionTree tree, Void none) {
            keeps(2, where(tree) + " has no lambda", false);
            return super.visitLambdaExpression(tree, none);
        }

        @Override
        public Void visitMemberReference(MemberReferenceTree tree, Void none) {
            keeps(2, where(tree) + " has no method reference", false);
            return super.visitMemberReference(tree, none);
        }

        @Override
        public Void visitSynchronized(SynchronizedTree tree, Void none) {
            keeps(6, where(tree) + " has no synchronized", false);
            return super.visitSynchronized(tree, none);
        }

        @Override
        public Void visitAssert(AssertTree tree, Void none) {
            keeps(6, where(tree) + " has no assert", false);
            return super.visitAssert(tree, none);
        }
    }
}
