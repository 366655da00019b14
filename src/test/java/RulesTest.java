import com.sun.source.tree.AnnotationTree;
import com.sun.source.tree.ArrayAccessTree;
import com.sun.source.tree.ClassTree;
import com.sun.source.tree.CompilationUnitTree;
import com.sun.source.tree.ConditionalExpressionTree;
import com.sun.source.tree.DoWhileLoopTree;
import com.sun.source.tree.EnhancedForLoopTree;
import com.sun.source.tree.ExpressionTree;
import com.sun.source.tree.ForLoopTree;
import com.sun.source.tree.IfTree;
import com.sun.source.tree.LiteralTree;
import com.sun.source.tree.MethodInvocationTree;
import com.sun.source.tree.MethodTree;
import com.sun.source.tree.NewArrayTree;
import com.sun.source.tree.NewClassTree;
import com.sun.source.tree.ThrowTree;
import com.sun.source.tree.Tree;
import com.sun.source.tree.TypeCastTree;
import com.sun.source.tree.VariableTree;
import com.sun.source.tree.WhileLoopTree;
import com.sun.source.util.JavacTask;
import com.sun.source.util.SourcePositions;
import com.sun.source.util.TreePath;
import com.sun.source.util.TreePathScanner;
import com.sun.source.util.Trees;
import java.io.IOException;
import java.nio.file.Path;
import java.util.HashMap;
import java.util.HashSet;
import java.util.List;
import java.util.Map;
import java.util.Set;
import java.util.TreeSet;
import javax.lang.model.element.Element;
import javax.lang.model.element.ElementKind;
import javax.lang.model.element.Modifier;
import javax.tools.JavaCompiler;
import javax.tools.StandardJavaFileManager;
import javax.tools.ToolProvider;

/** The rules of LANGUAGE.md that the compiler's tree of the program can tell: calls, throws, loops, indices, sizes. */
public final class RulesTest {
    private static final int MOST_CLASSES = 12;
    private static final int MOST_FIELDS = 20;
    private static final int MOST_PARAMETERS = 7;
    private static final int MOST_LINES = 60;
    private static final int MOST_DEPTH = 8;
    private static final Set<String> LIBRARY = Set.of("String.length()", "String.charAt(int)",
        "StringBuilder.StringBuilder()", "StringBuilder.append(char)", "StringBuilder.append(int)",
        "StringBuilder.append(java.lang.String)", "AbstractStringBuilder.charAt(int)",
        "AbstractStringBuilder.setLength(int)", "AbstractStringBuilder.length()", "Math.min(int,int)",
        "Math.max(int,int)",
        "System.arraycopy(java.lang.Object,int,java.lang.Object,int,int)", "Object.Object()");
    private static final Set<String> THROWN = Set.of("IllegalStateException", "IllegalArgumentException",
        "IndexOutOfBoundsException", "ArithmeticException", "UnsupportedOperationException",
        "NoSuchElementException", "RuntimeException");
    private static final Set<String> FIELD_TYPES = Set.of("int", "long", "boolean", "char", "String");
    private static final Set<String> CASTS = Set.of("(char)0", "(double)theatre.sumOfTours(STEPS)", "(double)tours",
        "(float)books.get(FAILED_TRIES)", "(float)tries");

    private RulesTest() {
    }

    public static void main(String[] args) throws IOException {
        JavaCompiler compiler = ToolProvider.getSystemJavaCompiler();
        try (StandardJavaFileManager files = compiler.getStandardFileManager(null, null, null)) {
            JavacTask task = (JavacTask) compiler.getTask(null, files, null, null, null,
                files.getJavaFileObjects(Path.of(args[0])));
            Iterable<? extends CompilationUnitTree> units = task.parse();
            task.analyze();
            Look look = new Look(Trees.instance(task));
            for (CompilationUnitTree unit : units) {
                look.scan(unit, null);
            }
            look.checkWhole();
        }
        Check.end("RulesTest");
    }

    /** Goes through the tree once, and gathers which method calls which. */
    private static final class Look extends TreePathScanner<Void, Void> {
        private final Trees trees;
        private final Map<String, Set<String>> calls = new HashMap<>();
        private final Set<String> face = new TreeSet<>();
        private int classes = 0;
        private String method = "";

        Look(Trees trees) {
            this.trees = trees;
        }

        private String where(Tree tree) {
            CompilationUnitTree unit = getCurrentPath().getCompilationUnit();
            return "line " + unit.getLineMap().getLineNumber(trees.getSourcePositions().getStartPosition(unit, tree))
                + ": ";
        }

        private static String nameOf(Element element) {
            return element.getEnclosingElement().getSimpleName() + "." + element;
        }

        // ---- rules 1, 2, 5 and 11: classes, fields, methods

        @Override
        public Void visitClass(ClassTree tree, Void unused) {
            classes++;
            int inObjects = 0;
            for (Tree member : tree.getMembers()) {
                if (member instanceof VariableTree field) {
                    boolean isStatic = field.getModifiers().getFlags().contains(Modifier.STATIC);
                    inObjects += isStatic ? 0 : 1;
                    Check.yes(where(field) + "a static field is a constant", !isStatic
                        || field.getModifiers().getFlags().contains(Modifier.FINAL)
                        && FIELD_TYPES.contains(field.getType().toString()));
                }
                Check.yes(where(member) + "no block of its own", member.getKind() != Tree.Kind.BLOCK);
            }
            Check.yes(where(tree) + "a class has some twenty fields at most", inObjects <= MOST_FIELDS);
            boolean isInside = getCurrentPath().getParentPath().getLeaf() instanceof ClassTree;
            Check.yes(where(tree) + "a class inside is static", !isInside
                || tree.getModifiers().getFlags().contains(Modifier.STATIC));
            return super.visitClass(tree, unused);
        }

        @Override
        public Void visitMethod(MethodTree tree, Void unused) {
            Element element = trees.getElement(getCurrentPath());
            method = nameOf(element);
            calls.put(method, new HashSet<>());
            if (isConstructor(element)) {
                calls.get(method).add(fieldsOf(element.getEnclosingElement()));
            }
            if (element.getModifiers().contains(Modifier.PUBLIC)) {
                face.add(method);
            }
            SourcePositions positions = trees.getSourcePositions();
            CompilationUnitTree unit = getCurrentPath().getCompilationUnit();
            long first = unit.getLineMap().getLineNumber(positions.getStartPosition(unit, tree));
            long last = unit.getLineMap().getLineNumber(positions.getEndPosition(unit, tree));
            Check.yes(where(tree) + "a method is short", last - first < MOST_LINES);
            Check.yes(where(tree) + "at most seven parameters", tree.getParameters().size() <= MOST_PARAMETERS);
            return super.visitMethod(tree, unused);
        }

        /** What a field is set to at first is called by the constructor. */
        @Override
        public Void visitVariable(VariableTree tree, Void unused) {
            Element element = trees.getElement(getCurrentPath());
            if (element.getKind().isField()) {
                method = fieldsOf(element.getEnclosingElement());
            }
            return super.visitVariable(tree, unused);
        }

        private static boolean isConstructor(Element element) {
            return element.getKind() == ElementKind.CONSTRUCTOR;
        }

        private static String fieldsOf(Element holder) {
            return "the fields of " + holder.getSimpleName();
        }

        @Override
        public Void visitAnnotation(AnnotationTree tree, Void unused) {
            Check.yes(where(tree) + "no annotation", false);
            return super.visitAnnotation(tree, unused);
        }

        void checkWhole() {
            Check.yes("some twelve classes at most, and this one read", classes > 0 && classes <= MOST_CLASSES);
            Check.yes("the face is read", face.size() > 30);
            for (String called : face) {
                int depth = depthOf(called, new HashSet<>());
                Check.yes(called + " goes at most eight deep, and not " + depth, depth <= MOST_DEPTH);
            }
        }

        /** How many calls stand open at once, at most; far above the most if a method comes to itself. */
        private int depthOf(String called, Set<String> open) {
            if (!open.add(called)) {
                return 1000;
            }
            int deepest = 0;
            for (String next : calls.getOrDefault(called, Set.of())) {
                deepest = Math.max(deepest, depthOf(next, open));
            }
            open.remove(called);
            return deepest + 1;
        }

        // ---- rules 4 and 6: the library, exceptions

        @Override
        public Void visitMethodInvocation(MethodInvocationTree tree, Void unused) {
            called(tree);
            return super.visitMethodInvocation(tree, unused);
        }

        @Override
        public Void visitNewClass(NewClassTree tree, Void unused) {
            if (!(getCurrentPath().getParentPath().getLeaf() instanceof ThrowTree)) {
                called(tree);
            }
            Check.yes(where(tree) + "no class without a name", tree.getClassBody() == null);
            return super.visitNewClass(tree, unused);
        }

        private void called(Tree tree) {
            Element element = trees.getElement(getCurrentPath());
            String name = nameOf(element);
            if (element.getEnclosingElement().toString().startsWith("TheatreSaga")) {
                calls.computeIfAbsent(method, unused -> new HashSet<>()).add(name);
            } else {
                Check.yes(where(tree) + "of the library: " + name, LIBRARY.contains(name));
            }
        }

        @Override
        public Void visitThrow(ThrowTree tree, Void unused) {
            boolean isNew = tree.getExpression() instanceof NewClassTree;
            Check.yes(where(tree) + "throws a new one", isNew);
            if (tree.getExpression() instanceof NewClassTree made) {
                Check.yes(where(tree) + "one of the list", THROWN.contains(made.getIdentifier().toString()));
                List<? extends ExpressionTree> told = made.getArguments();
                Check.yes(where(tree) + "with a written text", told.isEmpty()
                    || told.size() == 1 && told.get(0) instanceof LiteralTree);
            }
            Check.yes(where(tree) + "not in a constructor", !method.matches("(\\w+)\\.\\1\\(.*|the fields of .*"));
            return super.visitThrow(tree, unused);
        }

        // ---- rule 7: nothing throws by itself

        /** An index stands behind a test of the same index against the same array's length. */
        @Override
        public Void visitArrayAccess(ArrayAccessTree tree, Void unused) {
            String array = tree.getExpression().toString();
            String index = tree.getIndex().toString();
            boolean isTested = false;
            for (TreePath path = getCurrentPath(); path != null; path = path.getParentPath()) {
                String test = testOf(path.getLeaf());
                isTested |= test.contains("isBelow(" + index + ", " + array + ".length)");
                isTested |= test.contains(index + " < " + array + ".length")
                    && (test.contains(index + " >= 0") || path.getLeaf() instanceof ForLoopTree);
            }
            Check.yes(where(tree) + "the index is looked at: " + tree, isTested);
            return super.visitArrayAccess(tree, unused);
        }

        private static String testOf(Tree tree) {
            if (tree instanceof IfTree asked) {
                return asked.getCondition().toString();
            }
            if (tree instanceof ConditionalExpressionTree asked) {
                return asked.getCondition().toString();
            }
            return tree instanceof ForLoopTree loop ? loop.getCondition().toString() : "";
        }

        @Override
        public Void visitNewArray(NewArrayTree tree, Void unused) {
            for (ExpressionTree length : tree.getDimensions()) {
                Check.yes(where(tree) + "a constant length", length.toString().matches("[A-Z_]+"));
            }
            return super.visitNewArray(tree, unused);
        }

        @Override
        public Void visitTypeCast(TypeCastTree tree, Void unused) {
            Check.yes(where(tree) + "a cast among numbers: " + tree, CASTS.contains(tree.toString()));
            return super.visitTypeCast(tree, unused);
        }

        // ---- rule 9: every loop has an end

        @Override
        public Void visitForLoop(ForLoopTree tree, Void unused) {
            String test = String.valueOf(tree.getCondition());
            String step = tree.getUpdate().toString();
            boolean isCounted = test.matches("(\\w+) <=? .*") && step.equals(test.split(" ")[0] + "++;");
            Check.yes(where(tree) + "a counter against a bound: " + test + step, isCounted);
            return super.visitForLoop(tree, unused);
        }

        @Override
        public Void visitDoWhileLoop(DoWhileLoopTree tree, Void unused) {
            Check.yes(where(tree) + "a counter against a bound", tree.getCondition().toString().contains(" < MOST_"));
            return super.visitDoWhileLoop(tree, unused);
        }

        @Override
        public Void visitWhileLoop(WhileLoopTree tree, Void unused) {
            Check.yes(where(tree) + "no loop without a counter", false);
            return super.visitWhileLoop(tree, unused);
        }

        @Override
        public Void visitEnhancedForLoop(EnhancedForLoopTree tree, Void unused) {
            Check.yes(where(tree) + "no loop without a counter", false);
            return super.visitEnhancedForLoop(tree, unused);
        }
    }
}
