import com.sun.source.tree.AssertTree;
import com.sun.source.tree.BinaryTree;
import com.sun.source.tree.ClassTree;
import com.sun.source.tree.CompilationUnitTree;
import com.sun.source.tree.DoWhileLoopTree;
import com.sun.source.tree.EnhancedForLoopTree;
import com.sun.source.tree.ForLoopTree;
import com.sun.source.tree.LambdaExpressionTree;
import com.sun.source.tree.MemberReferenceTree;
import com.sun.source.tree.MethodInvocationTree;
import com.sun.source.tree.MethodTree;
import com.sun.source.tree.NewArrayTree;
import com.sun.source.tree.NewClassTree;
import com.sun.source.tree.SynchronizedTree;
import com.sun.source.tree.ThrowTree;
import com.sun.source.tree.Tree;
import com.sun.source.tree.TryTree;
import com.sun.source.tree.TypeCastTree;
import com.sun.source.tree.VariableTree;
import com.sun.source.tree.WhileLoopTree;
import com.sun.source.util.JavacTask;
import com.sun.source.util.SourcePositions;
import com.sun.source.util.TreePath;
import com.sun.source.util.TreePathScanner;
import com.sun.source.util.Trees;
import java.nio.charset.StandardCharsets;
import java.nio.file.Path;
import java.util.ArrayDeque;
import java.util.ArrayList;
import java.util.Deque;
import java.util.List;
import java.util.Map;
import java.util.Set;
import java.util.TreeMap;
import java.util.TreeSet;
import java.util.regex.Pattern;
import javax.lang.model.element.Element;
import javax.lang.model.element.ElementKind;
import javax.lang.model.element.ExecutableElement;
import javax.lang.model.element.Modifier;
import javax.lang.model.element.VariableElement;
import javax.lang.model.type.ArrayType;
import javax.lang.model.type.TypeKind;
import javax.lang.model.type.TypeMirror;
import javax.tools.JavaCompiler;
import javax.tools.StandardJavaFileManager;
import javax.tools.ToolProvider;

/**
 * The rules of LANGUAGE.md that need the source as the compiler sees it: which types, which calls of the library, how deep
 * calls go, which of them come back to themselves, that loops have bounds, that only constructors make objects.
 */
public final class SourceTest {
    private static final int MOST_DEEP = 8;
    private static final int MOST_LINES = 60;
    private static final int MOST_PARAMETERS = 7;
    private static final int MOST_CLASSES = 12;
    private static final int MOST_FIELDS = 20;

    /** Of what rule 4 lists, what is used: another one is to be looked up there, then added here. */
    private static final Set<String> LIBRARY = Set.of("java.lang.System.arraycopy", "java.util.Arrays.fill", "java.lang.Math.max",
            "java.lang.Math.min", "java.lang.Integer.bitCount", "java.lang.String.length", "java.lang.String.charAt", "java.lang.Object.<init>");

    private static int wrong = 0;

    private final Map<String, Set<String>> calls = new TreeMap<>();
    private final Map<String, MethodTree> methods = new TreeMap<>();
    private final Map<String, Integer> fields = new TreeMap<>();
    private int loops;

    private static void must(boolean holds, String what) {
        if (!holds) {
            wrong++;
            System.out.println("not so: " + what);
        }
    }

    public static void main(String[] args) throws Exception {
        JavaCompiler compiler = ToolProvider.getSystemJavaCompiler();
        must(compiler != null, "there is a compiler");
        if (compiler != null) {
            new SourceTest().look(compiler);
        }
        System.out.println(wrong == 0 ? "the source keeps to the language" : wrong + " rules are not kept");
        if (wrong != 0) System.exit(1);
    }

    private void look(JavaCompiler compiler) throws Exception {
        try (StandardJavaFileManager files = compiler.getStandardFileManager(null, null, StandardCharsets.US_ASCII)) {
            JavacTask task = (JavacTask) compiler.getTask(null, files, null, List.of("-proc:none"), null,
                    files.getJavaFileObjects(Path.of("src/main/java/WheelMemory.java")));
            CompilationUnitTree unit = task.parse().iterator().next();
            task.analyze();
            new Scanner(Trees.instance(task), unit).scan(unit, null);
        }
        must(methods.size() > 130 && loops > 50, "the methods and loops are found: " + methods.size() + ", " + loops);
        must(fields.size() <= MOST_CLASSES, "at most twelve classes: " + fields.keySet());
        fields.forEach((name, count) -> must(count <= MOST_FIELDS, name + " has at most twenty fields, not " + count));
        depths();
        circles();
    }

    // ---------------------------------------------------------------- how deep calls go

    private void depths() {
        int deepest = 0;
        for (String method : methods.keySet()) {
            Deque<String> open = new ArrayDeque<>();
            List<String> longest = longest(method, open);
            deepest = Math.max(deepest, longest.size());
            must(longest.size() <= MOST_DEEP, "calls go eight deep at most: " + longest);
        }
        must(deepest > 5, "calls are found");
    }

    /** The longest row of calls that stand open at once, none twice. */
    private List<String> longest(String method, Deque<String> open) {
        List<String> best = new ArrayList<>();
        open.addLast(method);
        for (String called : calls.getOrDefault(method, Set.of())) {
            if (open.contains(called)) continue;
            List<String> one = longest(called, open);
            if (one.size() > best.size()) best = one;
        }
        open.removeLast();
        best.add(0, method);
        return best;
    }

    private boolean leads(String from, String to, Set<String> seen) {
        for (String called : calls.getOrDefault(from, Set.of())) {
            if (called.equals(to) || seen.add(called) && leads(called, to, seen)) return true;
        }
        return false;
    }

    /** Methods that come back to themselves are private, and one of the numbers they hand on is the depth. */
    private void circles() {
        Set<String> found = new TreeSet<>();
        methods.forEach((name, tree) -> {
            if (!leads(name, name, new TreeSet<>())) return;
            found.add(tree.getName().toString());
            must(tree.getModifiers().getFlags().contains(Modifier.PRIVATE), name + " is private");
            must(tree.getParameters().stream().anyMatch(p -> p.getName().contentEquals("depth")), name + " carries its depth");
        });
        must(found.equals(Set.of("lookFrom", "lookBy")), "only the search comes back to itself: " + found);
    }

    // ---------------------------------------------------------------- what stands where

    private final class Scanner extends TreePathScanner<Void, Void> {
        private final Trees trees;
        private final CompilationUnitTree unit;
        private String method;
        private boolean making;

        Scanner(Trees trees, CompilationUnitTree unit) {
            this.trees = trees;
            this.unit = unit;
        }

        private String where(Tree tree) {
            SourcePositions positions = trees.getSourcePositions();
            return "line " + unit.getLineMap().getLineNumber(positions.getStartPosition(unit, tree));
        }

        private long lines(Tree tree) {
            SourcePositions positions = trees.getSourcePositions();
            return unit.getLineMap().getLineNumber(positions.getEndPosition(unit, tree))
                    - unit.getLineMap().getLineNumber(positions.getStartPosition(unit, tree)) + 1;
        }

        private Element element(Tree tree) {
            return trees.getElement(TreePath.getPath(unit, tree));
        }

        private String name(ExecutableElement e) {
            return e.getEnclosingElement() + "." + e.getSimpleName() + e.getParameters().stream().map(p -> p.asType().toString()).toList();
        }

        @Override
        public Void visitClass(ClassTree tree, Void v) {
            Element type = element(tree);
            must(type.getEnclosingElement().getKind() != ElementKind.METHOD && !tree.getSimpleName().isEmpty(), where(tree) + ": no class in a method");
            boolean outer = tree.getSimpleName().contentEquals("WheelMemory");
            must(outer || tree.getModifiers().getFlags().contains(Modifier.STATIC), type + " is static");
            must(outer || !tree.getModifiers().getFlags().contains(Modifier.PUBLIC), type + " is not public");
            fields.put(type.toString(), 0);
            return super.visitClass(tree, v);
        }

        @Override
        public Void visitMethod(MethodTree tree, Void v) {
            ExecutableElement e = (ExecutableElement) element(tree);
            String outside = method;
            boolean made = making;
            method = name(e);
            making = e.getKind() == ElementKind.CONSTRUCTOR;
            methods.put(method, tree);
            must(tree.getParameters().size() <= MOST_PARAMETERS, method + " takes at most seven parameters");
            must(lines(tree) <= MOST_LINES, method + " has at most sixty lines, not " + lines(tree));
            must(tree.getThrows().isEmpty(), method + " throws nothing");
            if (!making) fits(e.getReturnType(), tree);
            super.visitMethod(tree, v);
            method = outside;
            making = made;
            return null;
        }

        @Override
        public Void visitVariable(VariableTree tree, Void v) {
            Element e = element(tree);
            fits(e.asType(), tree);
            boolean made = making;
            if (e.getKind() == ElementKind.FIELD) {
                making = true;
                field((VariableElement) e);
            }
            super.visitVariable(tree, v);
            making = made;
            return null;
        }

        private void field(VariableElement e) {
            boolean outer = e.getEnclosingElement().getSimpleName().contentEquals("WheelMemory");
            must(!outer || e.getModifiers().contains(Modifier.PRIVATE) || e.getSimpleName().contentEquals("NONE"), e + " is private");
            if (!e.getModifiers().contains(Modifier.STATIC)) {
                fields.merge(e.getEnclosingElement().toString(), 1, Integer::sum);
            } else {
                must(e.getConstantValue() != null, e + " is a constant");
            }
        }

        /** Rule 3: numbers, texts, own classes, rows of them, rows of rows of numbers. */
        private void fits(TypeMirror type, Tree tree) {
            TypeMirror of = type;
            int dimensions = 0;
            while (of instanceof ArrayType row) {
                dimensions++;
                of = row.getComponentType();
            }
            boolean number = of.getKind().isPrimitive() && of.getKind() != TypeKind.FLOAT && of.getKind() != TypeKind.DOUBLE;
            boolean own = of.toString().startsWith("WheelMemory");
            boolean text = of.toString().equals("java.lang.String") && dimensions == 0;
            must(of.getKind() == TypeKind.VOID || number && dimensions <= 2 || own && dimensions <= 1 || text, where(tree) + ": no type " + type);
        }

        @Override
        public Void visitMethodInvocation(MethodInvocationTree tree, Void v) {
            called(element(tree), tree);
            return super.visitMethodInvocation(tree, v);
        }

        @Override
        public Void visitNewClass(NewClassTree tree, Void v) {
            must(making, where(tree) + ": only constructors make objects");
            must(tree.getClassBody() == null, where(tree) + ": no class without a name");
            must(tree.getArguments().isEmpty(), where(tree) + ": a constructor hands out nothing of what it makes");
            called(element(tree), tree);
            return super.visitNewClass(tree, v);
        }

        @Override
        public Void visitNewArray(NewArrayTree tree, Void v) {
            must(making, where(tree) + ": only constructors make rows");
            return super.visitNewArray(tree, v);
        }

        private void called(Element e, Tree tree) {
            ExecutableElement to = (ExecutableElement) e;
            if (to.getEnclosingElement().toString().startsWith("WheelMemory")) {
                if (method != null) calls.computeIfAbsent(method, m -> new TreeSet<>()).add(name(to));
            } else {
                must(LIBRARY.contains(to.getEnclosingElement() + "." + to.getSimpleName()), where(tree) + ": not of the library: " + to);
            }
        }

        @Override
        public Void visitForLoop(ForLoopTree tree, Void v) {
            loops++;
            must(tree.getInitializer().size() == 1 && tree.getUpdate().size() == 1, where(tree) + ": one counter");
            String counter = tree.getInitializer().get(0) instanceof VariableTree one ? one.getName().toString() : "";
            must(bounds(tree.getCondition(), counter), where(tree) + ": its counter has a bound: " + tree.getCondition());
            must(tree.getUpdate().get(0).toString().matches(counter + "(\\+\\+| \\+= \\d+| -= \\d+);?"), where(tree) + ": its counter goes on");
            must(!Pattern.compile("\\b" + counter + "(\\+\\+|--| [-+*/]?= )").matcher(tree.getStatement().toString()).find(),
                    where(tree) + ": nothing else changes its counter");
            return super.visitForLoop(tree, v);
        }

        /** Of conditions that must all hold the first compares the counter. */
        private boolean bounds(Tree condition, String counter) {
            Tree at = condition;
            while (at instanceof BinaryTree both && both.getKind() == Tree.Kind.CONDITIONAL_AND) at = both.getLeftOperand();
            return at instanceof BinaryTree one && Set.of(Tree.Kind.LESS_THAN, Tree.Kind.LESS_THAN_EQUAL, Tree.Kind.GREATER_THAN_EQUAL).contains(one.getKind())
                    && one.getLeftOperand().toString().matches(counter + "( \\+ 1)?");
        }

        @Override
        public Void visitBinary(BinaryTree tree, Void v) {
            TypeMirror left = trees.getTypeMirror(TreePath.getPath(unit, tree.getLeftOperand()));
            TypeMirror right = trees.getTypeMirror(TreePath.getPath(unit, tree.getRightOperand()));
            must(left.getKind().isPrimitive() && right.getKind().isPrimitive(), where(tree) + ": only numbers are reckoned with and compared");
            return super.visitBinary(tree, v);
        }

        @Override
        public Void visitTypeCast(TypeCastTree tree, Void v) {
            must(trees.getTypeMirror(TreePath.getPath(unit, tree.getType())).getKind().isPrimitive(), where(tree) + ": only numbers are cast");
            return super.visitTypeCast(tree, v);
        }

        @Override
        public Void visitWhileLoop(WhileLoopTree tree, Void v) {
            return never(tree);
        }

        @Override
        public Void visitDoWhileLoop(DoWhileLoopTree tree, Void v) {
            return never(tree);
        }

        @Override
        public Void visitEnhancedForLoop(EnhancedForLoopTree tree, Void v) {
            loops++;
            return super.visitEnhancedForLoop(tree, v);
        }

        @Override
        public Void visitLambdaExpression(LambdaExpressionTree tree, Void v) {
            return never(tree);
        }

        @Override
        public Void visitMemberReference(MemberReferenceTree tree, Void v) {
            return never(tree);
        }

        @Override
        public Void visitThrow(ThrowTree tree, Void v) {
            return never(tree);
        }

        @Override
        public Void visitTry(TryTree tree, Void v) {
            return never(tree);
        }

        @Override
        public Void visitSynchronized(SynchronizedTree tree, Void v) {
            return never(tree);
        }

        @Override
        public Void visitAssert(AssertTree tree, Void v) {
            return never(tree);
        }

        private Void never(Tree tree) {
            must(false, where(tree) + ": none of " + tree.getKind());
            return null;
        }
    }
}
