import com.sun.source.tree.AssertTree;
import com.sun.source.tree.BinaryTree;
import com.sun.source.tree.ClassTree;
import com.sun.source.tree.CompilationUnitTree;
import com.sun.source.tree.DoWhileLoopTree;
import com.sun.source.tree.ExpressionTree;
import com.sun.source.tree.ForLoopTree;
import com.sun.source.tree.LambdaExpressionTree;
import com.sun.source.tree.LiteralTree;
import com.sun.source.tree.MemberReferenceTree;
import com.sun.source.tree.MethodInvocationTree;
import com.sun.source.tree.MethodTree;
import com.sun.source.tree.NewClassTree;
import com.sun.source.tree.ParenthesizedTree;
import com.sun.source.tree.SynchronizedTree;
import com.sun.source.tree.ThrowTree;
import com.sun.source.tree.Tree;
import com.sun.source.tree.TryTree;
import com.sun.source.tree.TypeCastTree;
import com.sun.source.tree.VariableTree;
import com.sun.source.tree.WhileLoopTree;
import com.sun.source.util.JavacTask;
import com.sun.source.util.TreePathScanner;
import com.sun.source.util.Trees;
import java.io.IOException;
import java.nio.file.Path;
import java.util.ArrayList;
import java.util.HashMap;
import java.util.List;
import java.util.Map;
import java.util.Set;
import java.util.TreeSet;
import javax.lang.model.element.Element;
import javax.lang.model.element.ElementKind;
import javax.lang.model.element.Modifier;
import javax.lang.model.type.ArrayType;
import javax.lang.model.type.TypeMirror;
import javax.tools.JavaCompiler;
import javax.tools.StandardJavaFileManager;
import javax.tools.ToolProvider;

/**
 * The rules of LANGUAGE.md that need the code's own tree: what it calls of the library, how deep
 * its calls go, which types it has, and that each of its loops has a condition.
 */
public final class CodeTest {
    /** Of what rule 4 allows, what the class has use for; the rest stays out until it is needed. */
    private static final Set<String> LIBRARY = Set.of("Object.<init>", "Math.min", "Math.max", "Math.floorMod",
        "Integer.bitCount", "Arrays.fill", "System.arraycopy");
    private static final int DEEPEST = 8;
    private static int wrong = 0;

    private static void must(boolean fine, String what) {
        if (!fine) {
            wrong++;
            System.out.println("not so: " + what);
        }
    }

    /** Goes through the tree, and notes who calls whom. */
    private static final class Walk extends TreePathScanner<Void, Void> {
        final Trees trees;
        final Map<String, Set<String>> calls = new HashMap<>();
        final List<String> face = new ArrayList<>();
        private String method = "";

        Walk(Trees trees) {
            this.trees = trees;
        }

        private Element element() {
            return trees.getElement(getCurrentPath());
        }

        private static boolean isOwn(Element of) {
            Element top = of;
            while (top.getEnclosingElement() != null && top.getEnclosingElement().getKind() != ElementKind.PACKAGE) {
                top = top.getEnclosingElement();
            }
            return top.getSimpleName().contentEquals("CurtainHouse");
        }

        private static String nameOf(Element method) {
            String owner = method.getEnclosingElement().getSimpleName().toString();
            return isOwn(method) ? owner + "." + method : owner + "." + method.getSimpleName();
        }

        private void noteCall() {
            Element called = element();
            String name = nameOf(called);
            must(isOwn(called) || LIBRARY.contains(name), name + " is of the library that may be used");
            calls.computeIfAbsent(method, key -> new TreeSet<>()).add(name);
        }

        @Override
        public Void visitMethod(MethodTree tree, Void none) {
            String outer = method;
            method = nameOf(element());
            must(tree.getThrows().isEmpty(), method + " throws nothing");
            if (element().getModifiers().contains(Modifier.PUBLIC)) {
                face.add(method);
            }
            super.visitMethod(tree, none);
            method = outer;
            return null;
        }

        @Override
        public Void visitMethodInvocation(MethodInvocationTree tree, Void none) {
            noteCall();
            return super.visitMethodInvocation(tree, none);
        }

        @Override
        public Void visitNewClass(NewClassTree tree, Void none) {
            must(tree.getClassBody() == null, "no anonymous class in " + method);
            noteCall();
            return super.visitNewClass(tree, none);
        }

        @Override
        public Void visitClass(ClassTree tree, Void none) {
            must(method.isEmpty(), "no local class in " + method);
            return super.visitClass(tree, none);
        }

        @Override
        public Void visitVariable(VariableTree tree, Void none) {
            TypeMirror type = trees.getTypeMirror(getCurrentPath());
            must(isAllowed(type), "a type that may be used: " + type + " of " + tree.getName());
            return super.visitVariable(tree, none);
        }

        private boolean isAllowed(TypeMirror type) {
            if (type instanceof ArrayType row) {
                TypeMirror part = row.getComponentType();
                boolean rows = part instanceof ArrayType inner && inner.getComponentType().getKind().isPrimitive();
                return rows || part.getKind().isPrimitive() || type.toString().startsWith("CurtainHouse.");
            }
            return type.getKind().isPrimitive() || type.toString().startsWith("CurtainHouse.");
        }

        /** A loop whose condition is a constant, or lacks, has no end that could be seen. */
        private void checkLoop(ExpressionTree condition) {
            ExpressionTree inside = condition;
            while (inside instanceof ParenthesizedTree round) {
                inside = round.getExpression();
            }
            must(inside instanceof BinaryTree, "a loop's condition compares, in " + method);
        }

        @Override
        public Void visitForLoop(ForLoopTree tree, Void none) {
            checkLoop(tree.getCondition());
            must(!tree.getUpdate().isEmpty(), "a for loop goes on, in " + method);
            return super.visitForLoop(tree, none);
        }

        @Override
        public Void visitWhileLoop(WhileLoopTree tree, Void none) {
            checkLoop(tree.getCondition());
            return super.visitWhileLoop(tree, none);
        }

        @Override
        public Void visitDoWhileLoop(DoWhileLoopTree tree, Void none) {
            checkLoop(tree.getCondition());
            return super.visitDoWhileLoop(tree, none);
        }

        /** A divisor is a number that is written out, or one that the method looks at first. */
        @Override
        public Void visitBinary(BinaryTree tree, Void none) {
            if (tree.getKind() == Tree.Kind.DIVIDE || tree.getKind() == Tree.Kind.REMAINDER) {
                boolean written = tree.getRightOperand() instanceof LiteralTree number
                    && !Integer.valueOf(0).equals(number.getValue());
                boolean looked = method.contains(".share(") || method.contains(".divideUp(");
                must(written || looked, tree + " has a divisor that was looked at, in " + method);
            }
            return super.visitBinary(tree, none);
        }

        private Void refuse(Tree tree) {
            must(false, "no " + tree.getKind() + " in " + method);
            return null;
        }

        @Override
        public Void visitTypeCast(TypeCastTree tree, Void none) {
            must(trees.getTypeMirror(getCurrentPath()).getKind().isPrimitive(), "casts of numbers alone: " + tree);
            return super.visitTypeCast(tree, none);
        }

        @Override
        public Void visitLambdaExpression(LambdaExpressionTree tree, Void none) {
            return refuse(tree);
        }

        @Override
        public Void visitMemberReference(MemberReferenceTree tree, Void none) {
            return refuse(tree);
        }

        @Override
        public Void visitThrow(ThrowTree tree, Void none) {
            return refuse(tree);
        }

        @Override
        public Void visitTry(TryTree tree, Void none) {
            return refuse(tree);
        }

        @Override
        public Void visitSynchronized(SynchronizedTree tree, Void none) {
            return refuse(tree);
        }

        @Override
        public Void visitAssert(AssertTree tree, Void none) {
            return refuse(tree);
        }

        /** How many calls stand open at once where the longest chain from a method ends. */
        int depthOf(String of, List<String> open) {
            if (open.contains(of)) {
                must(false, "no recursion: " + open + " " + of);
                return 0;
            }
            List<String> now = new ArrayList<>(open);
            now.add(of);
            int deepest = 0;
            for (String called : calls.getOrDefault(of, Set.of())) {
                deepest = Math.max(deepest, depthOf(called, now));
            }
            return deepest + 1;
        }
    }

    private static Walk walk(Path source) throws IOException {
        JavaCompiler compiler = ToolProvider.getSystemJavaCompiler();
        try (StandardJavaFileManager files = compiler.getStandardFileManager(null, null, null)) {
            JavacTask task = (JavacTask) compiler.getTask(null, files, null, List.of("-proc:none"), null,
                files.getJavaFileObjects(source));
            Iterable<? extends CompilationUnitTree> units = task.parse();
            task.analyze();
            Walk walk = new Walk(Trees.instance(task));
            walk.scan(units, null);
            return walk;
        }
    }

    public static void main(String[] args) throws IOException {
        Walk walk = walk(Path.of(System.getProperty("project.root", "."), "src/main/java/CurtainHouse.java"));
        must(walk.face.size() == 21, "a public constructor and 20 methods: " + walk.face);
        int deepest = 0;
        for (String method : walk.face) {
            int depth = walk.depthOf(method, List.of());
            must(depth <= DEEPEST, method + " goes " + depth + " deep");
            deepest = Math.max(deepest, depth);
        }
        System.out.println(wrong == 0 ? "the code is within the language, calls " + deepest + " deep"
            : wrong + " rules are not kept to");
        if (wrong != 0) {
            System.exit(1);
        }
    }
}
