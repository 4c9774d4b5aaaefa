import com.sun.source.tree.AnnotationTree;
import com.sun.source.tree.CompilationUnitTree;
import com.sun.source.tree.DoWhileLoopTree;
import com.sun.source.tree.ForLoopTree;
import com.sun.source.tree.IdentifierTree;
import com.sun.source.tree.LambdaExpressionTree;
import com.sun.source.tree.MethodInvocationTree;
import com.sun.source.tree.MethodTree;
import com.sun.source.tree.NewArrayTree;
import com.sun.source.tree.NewClassTree;
import com.sun.source.tree.PrimitiveTypeTree;
import com.sun.source.tree.Tree;
import com.sun.source.tree.TypeCastTree;
import com.sun.source.tree.WhileLoopTree;
import com.sun.source.util.JavacTask;
import com.sun.source.util.TreePathScanner;
import com.sun.source.util.Trees;
import java.util.LinkedHashMap;
import java.util.LinkedHashSet;
import java.util.List;
import java.util.Map;
import java.util.Set;
import javax.lang.model.element.Element;
import javax.lang.model.element.ElementKind;
import javax.lang.model.element.ExecutableElement;
import javax.lang.model.element.Modifier;
import javax.lang.model.type.TypeKind;
import javax.tools.JavaCompiler;
import javax.tools.StandardJavaFileManager;
import javax.tools.ToolProvider;

/**
 * Rules of LANGUAGE.md that are seen in the compiler's own tree of the source: which method calls which, and how deep
 * (8, 11), what of the library is used (4), where objects are made (12), loops and casts. Run from the project's folder.
 */
public final class LanguageCallsTest {
    private static final Check check = new Check("LanguageCallsTest");
    private static final int DEEPEST = 8;
    /** Of the library's methods that rule 4 lists, those the class has a use for. */
    private static final Set<String> LIBRARY = Set.of("java.lang.Math.min", "java.lang.Math.max",
        "java.lang.System.arraycopy");

    private final Map<ExecutableElement, Set<ExecutableElement>> callsOf = new LinkedHashMap<>();

    public static void main(String[] args) throws Exception {
        JavaCompiler compiler = ToolProvider.getSystemJavaCompiler();
        LanguageCallsTest test = new LanguageCallsTest();
        try (StandardJavaFileManager files = compiler.getStandardFileManager(null, null, null)) {
            JavacTask task = (JavacTask) compiler.getTask(null, files, null, List.of("--release", "17", "-proc:none"),
                null, files.getJavaFileObjects("src/main/java/BarrelTaps.java"));
            Iterable<? extends CompilationUnitTree> units = task.parse();
            task.analyze();
            for (CompilationUnitTree unit : units) {
                test.new Reader(Trees.instance(task)).scan(unit, null);
            }
        }
        test.names();
        test.recursion();
        test.depth();
        check.end();
    }

    /** No other method bears the name of a public one, in the classes inside neither. */
    private void names() {
        Set<String> open = new LinkedHashSet<>();
        for (ExecutableElement m : callsOf.keySet()) {
            if (m.getModifiers().contains(Modifier.PUBLIC) && m.getKind() == ElementKind.METHOD) {
                check.holds(m + " is public", m.getEnclosingElement().toString().equals("BarrelTaps"));
                open.add(m.getSimpleName().toString());
            }
        }
        check.due("public methods", open.size(), 33);
        for (ExecutableElement m : callsOf.keySet()) {
            check.holds(m + " bears the name of a public one",
                m.getModifiers().contains(Modifier.PUBLIC) || !open.contains(m.getSimpleName().toString()));
        }
    }

    /** A method may call itself if it is private and static; none calls itself by way of another. */
    private void recursion() {
        check.holds("methods were found: " + callsOf.size(), callsOf.size() > 60);
        for (ExecutableElement m : callsOf.keySet()) {
            if (callsOf.get(m).contains(m)) {
                check.holds(m + " calls itself, but is not private and static",
                    m.getModifiers().contains(Modifier.PRIVATE) && m.getModifiers().contains(Modifier.STATIC));
            }
            for (ExecutableElement called : callsOf.get(m)) {
                check.holds(m + " calls itself by way of " + called, called == m || !reaches(called, m, 0));
            }
        }
    }

    private boolean reaches(ExecutableElement from, ExecutableElement to, int depth) {
        for (ExecutableElement called : callsOf.getOrDefault(from, Set.of())) {
            if (called == to || depth < 20 && called != from && reaches(called, to, depth + 1)) {
                return true;
            }
        }
        return false;
    }

    private void depth() {
        for (ExecutableElement m : callsOf.keySet()) {
            int deep = deepBelow(m, 0);
            check.holds(m + " goes " + deep + " deep", deep <= DEEPEST);
        }
    }

    /** How many calls stand open at once at most, this one told, a recursion as one. */
    private int deepBelow(ExecutableElement m, int depth) {
        int most = 0;
        for (ExecutableElement called : callsOf.getOrDefault(m, Set.of())) {
            if (called != m && depth < 20) {
                most = Math.max(most, deepBelow(called, depth + 1));
            }
        }
        return most + 1;
    }

    private final class Reader extends TreePathScanner<Void, Void> {
        private final Trees trees;
        private ExecutableElement inside;

        Reader(Trees trees) {
            this.trees = trees;
        }

        private Element here() {
            return trees.getElement(getCurrentPath());
        }

        @Override
        public Void visitMethod(MethodTree tree, Void none) {
            inside = (ExecutableElement) here();
            callsOf.put(inside, new LinkedHashSet<>());
            super.visitMethod(tree, none);
            inside = null;
            return null;
        }

        @Override
        public Void visitMethodInvocation(MethodInvocationTree tree, Void none) {
            ExecutableElement called = (ExecutableElement) here();
            String owner = called.getEnclosingElement().toString();
            boolean own = owner.equals("BarrelTaps") || owner.startsWith("BarrelTaps.");
            boolean ownMaker = called.getKind() == ElementKind.CONSTRUCTOR && owner.equals("java.lang.Object");
            check.holds(inside + " calls " + owner + "." + called.getSimpleName(),
                own || ownMaker || LIBRARY.contains(owner + "." + called.getSimpleName()));
            if (own) {
                callsOf.get(inside).add(called);
            }
            return super.visitMethodInvocation(tree, none);
        }

        @Override
        public Void visitNewClass(NewClassTree tree, Void none) {
            check.holds(inside + " makes an object of its own", tree.getClassBody() == null);
            madeOutsideCalls(tree);
            return super.visitNewClass(tree, none);
        }

        @Override
        public Void visitNewArray(NewArrayTree tree, Void none) {
            madeOutsideCalls(tree);
            return super.visitNewArray(tree, none);
        }

        /** All rows are made with the object, so that a call makes none: the room of a run is narrow. */
        private void madeOutsideCalls(Tree tree) {
            check.holds(inside + " makes " + tree, inside == null || inside.getKind() == ElementKind.CONSTRUCTOR);
        }

        @Override
        public Void visitForLoop(ForLoopTree tree, Void none) {
            check.holds("a loop without an end in " + inside,
                tree.getCondition() != null && !tree.getUpdate().isEmpty());
            return super.visitForLoop(tree, none);
        }

        @Override
        public Void visitWhileLoop(WhileLoopTree tree, Void none) {
            check.holds("a loop without a counter in " + inside, false);
            return super.visitWhileLoop(tree, none);
        }

        @Override
        public Void visitDoWhileLoop(DoWhileLoopTree tree, Void none) {
            check.holds("a loop without a counter in " + inside, false);
            return super.visitDoWhileLoop(tree, none);
        }

        @Override
        public Void visitTypeCast(TypeCastTree tree, Void none) {
            check.holds("a cast that the machine could refuse in " + inside, tree.getType() instanceof PrimitiveTypeTree);
            return super.visitTypeCast(tree, none);
        }

        @Override
        public Void visitPrimitiveType(PrimitiveTypeTree tree, Void none) {
            TypeKind kind = tree.getPrimitiveTypeKind();
            check.holds(kind + " in " + inside, kind != TypeKind.DOUBLE && kind != TypeKind.FLOAT);
            return super.visitPrimitiveType(tree, none);
        }

        @Override
        public Void visitLambdaExpression(LambdaExpressionTree tree, Void none) {
            check.holds("a lambda in " + inside, false);
            return super.visitLambdaExpression(tree, none);
        }

        @Override
        public Void visitAnnotation(AnnotationTree tree, Void none) {
            check.holds("an annotation", false);
            return super.visitAnnotation(tree, none);
        }

        /** Object's own methods would answer by which object it is. */
        @Override
        public Void visitIdentifier(IdentifierTree tree, Void none) {
            check.holds("Object in " + inside, !tree.getName().contentEquals("Object"));
            return super.visitIdentifier(tree, none);
        }
    }
}
