import com.sun.source.tree.AnnotationTree;
import com.sun.source.tree.AssertTree;
import com.sun.source.tree.BinaryTree;
import com.sun.source.tree.ClassTree;
import com.sun.source.tree.CompilationUnitTree;
import com.sun.source.tree.EnhancedForLoopTree;
import com.sun.source.tree.ForLoopTree;
import com.sun.source.tree.InstanceOfTree;
import com.sun.source.tree.LambdaExpressionTree;
import com.sun.source.tree.LiteralTree;
import com.sun.source.tree.MemberReferenceTree;
import com.sun.source.tree.MethodInvocationTree;
import com.sun.source.tree.MethodTree;
import com.sun.source.tree.NewArrayTree;
import com.sun.source.tree.NewClassTree;
import com.sun.source.tree.SynchronizedTree;
import com.sun.source.tree.ThrowTree;
import com.sun.source.tree.Tree;
import com.sun.source.tree.TryTree;
import com.sun.source.tree.TypeCastTree;
import com.sun.source.tree.WhileLoopTree;
import com.sun.source.util.JavacTask;
import com.sun.source.util.TreePath;
import com.sun.source.util.TreePathScanner;
import com.sun.source.util.Trees;
import java.io.IOException;
import java.nio.file.Path;
import java.util.ArrayList;
import java.util.Arrays;
import java.util.HashMap;
import java.util.HashSet;
import java.util.LinkedHashMap;
import java.util.LinkedHashSet;
import java.util.List;
import java.util.Map;
import java.util.Set;
import javax.lang.model.element.Element;
import javax.lang.model.type.TypeKind;
import javax.lang.model.type.TypeMirror;
import javax.tools.JavaCompiler;
import javax.tools.StandardJavaFileManager;
import javax.tools.ToolProvider;

/** The rules of the language that a compiler's tree shows: what is called, how deep, what is made, where loops end. */
public final class LanguageTest {
    private static final Check CHECK = new Check();
    private static final int DEEPEST = 8;
    private static final int MOST_PARAMETERS = 7;
    private static final int MOST_CLASSES = 12;
    private static final int MOST_FIELDS = 20;
    /** Of what rule 4 lists, what the class may call; a call that is not here is looked up there first. */
    private static final Set<String> LIBRARY = new HashSet<>(Arrays.asList(
            "String.length()", "String.charAt(int)", "String.indexOf(int)",
            "Integer.bitCount(int)", "Math.min(int,int)", "Math.max(int,int)", "Math.abs(long)",
            "System.arraycopy(Object,int,Object,int,int)",
            "Arrays.fill(int[],int)", "Arrays.fill(long[],long)", "Object.<init>()"));

    /** What each method calls, the library's methods too; by its class and name. */
    private final Map<String, Set<String>> calls = new LinkedHashMap<>();
    private final Map<String, Integer> numbersTaken = new HashMap<>();

    public static void main(String[] args) throws IOException {
        new LanguageTest().run();
        CHECK.finish();
    }

    private void run() throws IOException {
        JavaCompiler compiler = ToolProvider.getSystemJavaCompiler();
        try (StandardJavaFileManager files = compiler.getStandardFileManager(null, null, null)) {
            JavacTask task = (JavacTask) compiler.getTask(null, files, null, List.of("-proc:none"), null,
                    files.getJavaFileObjects(Path.of("src/main/java/ByHeart.java")));
            CompilationUnitTree unit = task.parse().iterator().next();
            task.analyze();
            new Walk(Trees.instance(task), unit).scan(new TreePath(unit), null);
        }
        CHECK.due("methods were found", calls.size() > 100, true);
        recursion();
        depth();
    }

    private final class Walk extends TreePathScanner<Void, Void> {
        private final Trees trees;
        private final CompilationUnitTree unit;
        private String method = null;
        private int classes = 0;

        Walk(Trees trees, CompilationUnitTree unit) {
            this.trees = trees;
            this.unit = unit;
        }

        private String at(Tree tree) {
            long place = trees.getSourcePositions().getStartPosition(unit, tree);
            return "line " + unit.getLineMap().getLineNumber(place);
        }

        private void never(String what, Tree tree) {
            CHECK.due(what + " at " + at(tree), true, false);
        }

        private TypeMirror typeOf(Tree tree) {
            return trees.getTypeMirror(new TreePath(getCurrentPath(), tree));
        }

        private String nameOf(Element element) {
            return element.getEnclosingElement().getSimpleName() + "." + element.getSimpleName();
        }

        @Override
        public Void visitClass(ClassTree tree, Void none) {
            classes++;
            CHECK.due(tree.getSimpleName() + ": some twelve classes at most", classes <= MOST_CLASSES, true);
            CHECK.due(tree.getSimpleName() + " has a name and stands in a class", method == null, true);
            int fields = 0;
            for (Tree member : tree.getMembers()) {
                boolean isField = member.getKind() == Tree.Kind.VARIABLE;
                CHECK.due(at(member) + " is no initialiser block", member.getKind() != Tree.Kind.BLOCK, true);
                if (isField && !trees.getElement(new TreePath(getCurrentPath(), member)).getModifiers()
                        .contains(javax.lang.model.element.Modifier.STATIC)) {
                    fields++;
                }
            }
            CHECK.due(tree.getSimpleName() + ": some twenty fields at most", fields <= MOST_FIELDS, true);
            return super.visitClass(tree, none);
        }

        @Override
        public Void visitMethod(MethodTree tree, Void none) {
            Element element = trees.getElement(getCurrentPath());
            method = nameOf(element);
            CHECK.due(method + " has a name of its own", calls.containsKey(method), false);
            calls.put(method, new LinkedHashSet<>());
            CHECK.due(method + ": 7 parameters at most", tree.getParameters().size() <= MOST_PARAMETERS, true);
            int numbers = 0;
            for (Tree parameter : tree.getParameters()) {
                numbers += trees.getElement(new TreePath(getCurrentPath(), parameter)).asType().getKind() == TypeKind.INT ? 1 : 0;
            }
            numbersTaken.put(method, numbers);
            super.visitMethod(tree, none);
            method = null;
            return null;
        }

        @Override
        public Void visitMethodInvocation(MethodInvocationTree tree, Void none) {
            Element element = trees.getElement(getCurrentPath());
            String owner = element.getEnclosingElement().toString();
            String called = nameOf(element);
            if (owner.startsWith("java.")) {
                String full = (element.getEnclosingElement().getSimpleName() + "." + element).replace("java.lang.", "");
                String plain = full.endsWith(".Object()") ? "Object.<init>()" : full;
                CHECK.due(plain + " is in the library, at " + at(tree), LIBRARY.contains(plain), true);
                if (!plain.startsWith("Object.")) {
                    noteCall(plain);
                }
            } else {
                noteCall(called);
            }
            return super.visitMethodInvocation(tree, none);
        }

        private void noteCall(String called) {
            if (method != null) {
                calls.get(method).add(called);
            }
        }

        @Override
        public Void visitNewClass(NewClassTree tree, Void none) {
            CHECK.due("only what is new is made, at " + at(tree), isMadeOnce(), true);
            CHECK.due("no class without a name, at " + at(tree), tree.getClassBody() == null, true);
            return super.visitNewClass(tree, none);
        }

        @Override
        public Void visitNewArray(NewArrayTree tree, Void none) {
            CHECK.due("only what is new makes rows, at " + at(tree), isMadeOnce(), true);
            for (Tree size : tree.getDimensions()) {
                Object constant = constantOf(size);
                CHECK.due("a row's length is a constant, at " + at(tree),
                        constant instanceof Integer && (Integer) constant >= 0, true);
            }
            return super.visitNewArray(tree, none);
        }

        /** Whether this stands in a constructor or beside a field, so that no call comes by here again. */
        private boolean isMadeOnce() {
            return method == null || method.endsWith(".<init>");
        }

        private Object constantOf(Tree tree) {
            if (tree instanceof LiteralTree) {
                return ((LiteralTree) tree).getValue();
            }
            if (tree instanceof BinaryTree) {
                Object left = constantOf(((BinaryTree) tree).getLeftOperand());
                Object right = constantOf(((BinaryTree) tree).getRightOperand());
                if (left instanceof Integer && right instanceof Integer) {
                    int a = (Integer) left;
                    int b = (Integer) right;
                    return tree.getKind() == Tree.Kind.MULTIPLY ? Integer.valueOf(a * b)
                            : tree.getKind() == Tree.Kind.PLUS ? Integer.valueOf(a + b) : null;
                }
                return null;
            }
            Element element = trees.getElement(new TreePath(getCurrentPath(), tree));
            return element instanceof javax.lang.model.element.VariableElement
                    ? ((javax.lang.model.element.VariableElement) element).getConstantValue() : null;
        }

        @Override
        public Void visitBinary(BinaryTree tree, Void none) {
            TypeMirror left = typeOf(tree.getLeftOperand());
            TypeMirror right = typeOf(tree.getRightOperand());
            CHECK.due("two numbers or two booleans at " + at(tree), left.getKind().isPrimitive() && right.getKind().isPrimitive(), true);
            return super.visitBinary(tree, none);
        }

        @Override
        public Void visitTypeCast(TypeCastTree tree, Void none) {
            CHECK.due("only numbers are cast, at " + at(tree), typeOf(tree.getType()).getKind().isPrimitive(), true);
            return super.visitTypeCast(tree, none);
        }

        @Override
        public Void visitLiteral(LiteralTree tree, Void none) {
            CHECK.due("no null at " + at(tree), tree.getKind() != Tree.Kind.NULL_LITERAL, true);
            return super.visitLiteral(tree, none);
        }

        @Override
        public Void visitForLoop(ForLoopTree tree, Void none) {
            boolean counts = tree.getCondition() != null && tree.getUpdate().size() == 1;
            CHECK.due("a bound and a counter at " + at(tree), counts, true);
            return super.visitForLoop(tree, none);
        }

        @Override
        public Void visitWhileLoop(WhileLoopTree tree, Void none) {
            String condition = tree.getCondition().toString();
            CHECK.due("a counter against a bound at " + at(tree), condition.contains(" < "), true);
            return super.visitWhileLoop(tree, none);
        }

        @Override
        public Void visitEnhancedForLoop(EnhancedForLoopTree tree, Void none) {
            never("a loop over what is no row of numbers", tree);
            return super.visitEnhancedForLoop(tree, none);
        }

        @Override
        public Void visitLambdaExpression(LambdaExpressionTree tree, Void none) {
            never("a lambda", tree);
            return null;
        }

        @Override
        public Void visitMemberReference(MemberReferenceTree tree, Void none) {
            never("a method reference", tree);
            return null;
        }

        @Override
        public Void visitThrow(ThrowTree tree, Void none) {
            never("throw", tree);
            return null;
        }

        @Override
        public Void visitTry(TryTree tree, Void none) {
            never("try", tree);
            return null;
        }

        @Override
        public Void visitAssert(AssertTree tree, Void none) {
            never("assert", tree);
            return null;
        }

        @Override
        public Void visitSynchronized(SynchronizedTree tree, Void none) {
            never("synchronized", tree);
            return null;
        }

        @Override
        public Void visitInstanceOf(InstanceOfTree tree, Void none) {
            never("instanceof", tree);
            return null;
        }

        @Override
        public Void visitAnnotation(AnnotationTree tree, Void none) {
            never("an annotation", tree);
            return null;
        }
    }

    /** All that a method may get to by calls. */
    private Set<String> reachedFrom(String method) {
        Set<String> reached = new LinkedHashSet<>();
        List<String> open = new ArrayList<>(calls.getOrDefault(method, Set.of()));
        while (!open.isEmpty()) {
            String next = open.remove(open.size() - 1);
            if (reached.add(next)) {
                open.addAll(calls.getOrDefault(next, Set.of()));
            }
        }
        return reached;
    }

    private boolean callOneAnother(String a, String b) {
        return a.equals(b) || reachedFrom(a).contains(b) && reachedFrom(b).contains(a);
    }

    /** What calls itself carries its depth, or the day that a row of days has got to. */
    private void recursion() {
        Set<String> again = new LinkedHashSet<>();
        for (String method : calls.keySet()) {
            if (reachedFrom(method).contains(method)) {
                again.add(method);
                CHECK.due(method + " carries a number", numbersTaken.get(method) > 0, true);
            }
        }
        Set<String> known = new HashSet<>(Arrays.asList("Search.tryDay", "RulesReader.readEither", "RulesReader.readBoth",
                "RulesReader.readOne", "RulesReader.readSum", "RulesReader.readTerm", "RulesReader.readUnit", "RulesReader.readInner"));
        CHECK.due("what calls itself: " + again, again.equals(known), true);
    }

    /** Calls that are no recursion: those that call one another count once together. */
    private void depth() {
        for (String method : calls.keySet()) {
            List<String> row = deepestRow(method, new HashMap<>());
            CHECK.due("at most eight deep: " + row, row.size() <= DEEPEST, true);
        }
    }

    private List<String> deepestRow(String method, Map<String, List<String>> done) {
        if (done.containsKey(method)) {
            return done.get(method);
        }
        List<String> deepest = new ArrayList<>();
        for (String other : calls.keySet()) {
            if (callOneAnother(method, other)) {
                for (String called : calls.get(other)) {
                    if (!callOneAnother(method, called)) {
                        List<String> row = deepestRow(called, done);
                        deepest = row.size() > deepest.size() ? row : deepest;
                    }
                }
            }
        }
        List<String> row = new ArrayList<>(List.of(method));
        row.addAll(deepest);
        done.put(method, row);
        return row;
    }
}
