import com.sun.source.tree.AssertTree;
import com.sun.source.tree.BinaryTree;
import com.sun.source.tree.BlockTree;
import com.sun.source.tree.CatchTree;
import com.sun.source.tree.ClassTree;
import com.sun.source.tree.CompilationUnitTree;
import com.sun.source.tree.CompoundAssignmentTree;
import com.sun.source.tree.DoWhileLoopTree;
import com.sun.source.tree.ForLoopTree;
import com.sun.source.tree.ImportTree;
import com.sun.source.tree.LambdaExpressionTree;
import com.sun.source.tree.LiteralTree;
import com.sun.source.tree.MemberReferenceTree;
import com.sun.source.tree.MethodInvocationTree;
import com.sun.source.tree.MethodTree;
import com.sun.source.tree.NewArrayTree;
import com.sun.source.tree.NewClassTree;
import com.sun.source.tree.SynchronizedTree;
import com.sun.source.tree.ThrowTree;
import com.sun.source.tree.Tree;
import com.sun.source.tree.TryTree;
import com.sun.source.tree.VariableTree;
import com.sun.source.tree.WhileLoopTree;
import com.sun.source.util.JavacTask;
import com.sun.source.util.TreePath;
import com.sun.source.util.TreePathScanner;
import com.sun.source.util.Trees;
import java.io.IOException;
import java.nio.file.Files;
import java.nio.file.Path;
import java.util.List;
import java.util.Map;
import java.util.Set;
import java.util.TreeMap;
import java.util.TreeSet;
import java.util.stream.Stream;
import javax.lang.model.element.Element;
import javax.lang.model.element.ExecutableElement;
import javax.lang.model.element.Modifier;
import javax.lang.model.type.TypeMirror;
import javax.tools.JavaCompiler;
import javax.tools.StandardJavaFileManager;
import javax.tools.ToolProvider;

/**
 * The rules of LANGUAGE.md that the text of the class shows. Where a rule allows more than the class needs (loops
 * other than for, recursion, lists, catching, other exceptions), the test allows only what it needs.
 */
final class LanguageTest {
    private static final Path SOURCE = Path.of("src/main/java/FlakeTriage.java");
    private static final String FACE = "FlakeTriage";

    private static final Set<String> LIBRARY = Set.of("java.lang.Math.max", "java.lang.Math.min",
            "java.lang.Math.abs", "java.lang.Long.bitCount", "java.lang.Integer.bitCount");
    private static final Set<String> TYPES = Set.of("int", "long", "boolean", "int[]", "boolean[]", "int[][]");
    private static final Set<String> STATIC_TYPES = Set.of("int", "long", "boolean");
    private static final Set<String> EXCEPTIONS = Set.of("java.lang.IllegalStateException",
            "java.lang.IllegalArgumentException", "java.lang.IndexOutOfBoundsException");

    private static final int MOST_PARAMETERS = 7;
    private static final int MOST_LINES = 60;
    private static final int DEEPEST = 8;
    private static final int MOST_CLASSES = 12;
    private static final int MOST_FIELDS = 20;

    private static final Check check = new Check();

    private LanguageTest() {
    }

    public static void main(String[] args) throws IOException {
        JavaCompiler compiler = ToolProvider.getSystemJavaCompiler();
        try (StandardJavaFileManager files = compiler.getStandardFileManager(null, null, null)) {
            JavacTask task = (JavacTask) compiler.getTask(null, files, null, List.of("-proc:none", "--release", "17"),
                    null, files.getJavaFileObjects(SOURCE));
            Iterable<? extends CompilationUnitTree> units = task.parse();
            task.analyze();
            for (CompilationUnitTree unit : units) {
                Reader reader = new Reader(Trees.instance(task), unit);
                reader.scan(unit, null);
                reader.wholes();
            }
        }
        onlyOneFile();
        check.end();
    }

    private static void onlyOneFile() throws IOException {
        try (Stream<Path> files = Files.list(SOURCE.getParent())) {
            check.due("the files of the program", files.toList().toString(), "[" + SOURCE + "]");
        }
    }

    /** Reads the class's text, each rule where its words stand; what needs it whole is looked at in the end. */
    private static final class Reader extends TreePathScanner<Void, Void> {
        private final Trees trees;
        private final CompilationUnitTree unit;
        private final Map<String, Set<String>> calls = new TreeMap<>();
        private final Map<String, Set<String>> thrown = new TreeMap<>();
        private final Map<String, Set<String>> declared = new TreeMap<>();
        private String method = "";
        private int classes = 0;

        Reader(Trees trees, CompilationUnitTree unit) {
            this.trees = trees;
            this.unit = unit;
            check.due("rule 1: the package line", String.valueOf(unit.getPackage()), "null");
        }

        private void rule(int number, Tree tree, String what, boolean kept) {
            check.due("rule " + number + ", line " + line(start(tree)) + ": " + what, kept, true);
        }

        private void never(int number, Tree tree, String what) {
            rule(number, tree, "there is no " + what, false);
        }

        private long start(Tree tree) {
            return trees.getSourcePositions().getStartPosition(unit, tree);
        }

        private long line(long position) {
            return unit.getLineMap().getLineNumber(Math.max(0, position));
        }

        private TypeMirror typeOf(Tree tree) {
            return trees.getTypeMirror(new TreePath(getCurrentPath(), tree));
        }

        private boolean isText(Tree tree) {
            return String.valueOf(typeOf(tree)).equals("java.lang.String");
        }

        private static boolean isOwn(String name) {
            return name.equals(FACE) || name.startsWith(FACE + ".");
        }

        private static String nameOf(Element method) {
            return method.getEnclosingElement() + "." + method.getSimpleName();
        }

        @Override
        public Void visitImport(ImportTree tree, Void none) {
            never(4, tree, "import");
            return null;
        }

        @Override
        public Void visitClass(ClassTree tree, Void none) {
            classes++;
            rule(2, tree, "a class stands in a class or alone",
                    getCurrentPath().getParentPath().getLeaf() instanceof ClassTree || classes == 1);
            long fields = tree.getMembers().stream().filter(member -> member instanceof VariableTree field
                    && !field.getModifiers().getFlags().contains(Modifier.STATIC)).count();
            rule(11, tree, "at most some twenty fields", fields <= MOST_FIELDS);
            boolean blocks = tree.getMembers().stream().anyMatch(member -> member instanceof BlockTree);
            rule(5, tree, "no initialiser block", !blocks);
            return super.visitClass(tree, none);
        }

        @Override
        public Void visitMethod(MethodTree tree, Void none) {
            Element element = trees.getElement(getCurrentPath());
            method = nameOf(element);
            calls.putIfAbsent(method, new TreeSet<>());
            thrown.putIfAbsent(method, new TreeSet<>());
            if (element.getModifiers().contains(Modifier.PUBLIC)) {
                Set<String> named = new TreeSet<>();
                ((ExecutableElement) element).getThrownTypes().forEach(type -> named.add(type.toString()));
                declared.put(method, named);
            }
            rule(11, tree, "at most seven parameters", tree.getParameters().size() <= MOST_PARAMETERS);
            long end = trees.getSourcePositions().getEndPosition(unit, tree);
            rule(11, tree, "at most some sixty lines", line(end) - line(start(tree)) < MOST_LINES);
            super.visitMethod(tree, none);
            method = "";
            return null;
        }

        @Override
        public Void visitVariable(VariableTree tree, Void none) {
            Element element = trees.getElement(getCurrentPath());
            String type = element.asType().toString();
            rule(3, tree, type + " is one of the types", TYPES.contains(type) || isOwn(type));
            if (element.getModifiers().contains(Modifier.STATIC)) {
                rule(5, tree, "a static field is final",
                        element.getModifiers().contains(Modifier.FINAL));
                rule(5, tree, "a static field is a constant", STATIC_TYPES.contains(type));
            }
            return super.visitVariable(tree, none);
        }

        @Override
        public Void visitMethodInvocation(MethodInvocationTree tree, Void none) {
            String name = nameOf(trees.getElement(getCurrentPath()));
            if (name.endsWith(".<init>")) {
                return super.visitMethodInvocation(tree, none);
            }
            boolean own = isOwn(name);
            rule(4, tree, name + " may be used", own || LIBRARY.contains(name));
            if (own) {
                rule(12, tree, "a call stands in a method", !method.isEmpty());
                calls.computeIfAbsent(method, key -> new TreeSet<>()).add(name);
            }
            return super.visitMethodInvocation(tree, none);
        }

        @Override
        public Void visitNewClass(NewClassTree tree, Void none) {
            boolean ofField = method.isEmpty() && isOwn(String.valueOf(typeOf(tree.getIdentifier())));
            boolean thrownHere = getCurrentPath().getParentPath().getLeaf() instanceof ThrowTree;
            rule(12, tree, "an object is made with its holder or to be thrown", ofField || thrownHere);
            return super.visitNewClass(tree, none);
        }

        @Override
        public Void visitNewArray(NewArrayTree tree, Void none) {
            rule(12, tree, "an array is made with its holder", method.isEmpty());
            return super.visitNewArray(tree, none);
        }

        @Override
        public Void visitThrow(ThrowTree tree, Void none) {
            boolean plain = tree.getExpression() instanceof NewClassTree made && made.getArguments().stream()
                    .allMatch(argument -> argument instanceof LiteralTree) && made.getArguments().size() <= 1;
            String type = String.valueOf(typeOf(tree.getExpression()));
            rule(6, tree, "throw new E(\"a written text\")", plain && EXCEPTIONS.contains(type));
            rule(6, tree, "no throw in a constructor", !method.endsWith("<init>"));
            thrown.computeIfAbsent(method, key -> new TreeSet<>()).add(type);
            return super.visitThrow(tree, none);
        }

        @Override
        public Void visitForLoop(ForLoopTree tree, Void none) {
            rule(9, tree, "a loop has an end", tree.getCondition() != null);
            return super.visitForLoop(tree, none);
        }

        @Override
        public Void visitWhileLoop(WhileLoopTree tree, Void none) {
            never(9, tree, "while");
            return null;
        }

        @Override
        public Void visitDoWhileLoop(DoWhileLoopTree tree, Void none) {
            never(9, tree, "do");
            return null;
        }

        @Override
        public Void visitBinary(BinaryTree tree, Void none) {
            rule(10, tree, "no text is joined or compared by a sign",
                    !isText(tree.getLeftOperand()) && !isText(tree.getRightOperand()));
            return super.visitBinary(tree, none);
        }

        @Override
        public Void visitCompoundAssignment(CompoundAssignmentTree tree, Void none) {
            rule(10, tree, "no text is joined by a sign", !isText(tree.getVariable()));
            return super.visitCompoundAssignment(tree, none);
        }

        /** Texts joined by a sign are one literal in javac's tree, so the words between its ends are looked at. */
        @Override
        public Void visitLiteral(LiteralTree tree, Void none) {
            if (tree.getValue() instanceof String text) {
                long length = trees.getSourcePositions().getEndPosition(unit, tree) - start(tree);
                rule(10, tree, "a text stands between two quotation marks", length == text.length() + 2);
            }
            return super.visitLiteral(tree, none);
        }

        @Override
        public Void visitLambdaExpression(LambdaExpressionTree tree, Void none) {
            never(2, tree, "lambda");
            return null;
        }

        @Override
        public Void visitMemberReference(MemberReferenceTree tree, Void none) {
            never(2, tree, "method reference");
            return null;
        }

        @Override
        public Void visitTry(TryTree tree, Void none) {
            never(6, tree, "try");
            return null;
        }

        @Override
        public Void visitCatch(CatchTree tree, Void none) {
            never(6, tree, "catch");
            return null;
        }

        @Override
        public Void visitSynchronized(SynchronizedTree tree, Void none) {
            never(6, tree, "synchronized");
            return null;
        }

        @Override
        public Void visitAssert(AssertTree tree, Void none) {
            never(6, tree, "assert");
            return null;
        }

        void wholes() {
            check.due("rule 11: at most some twelve classes", classes <= MOST_CLASSES, true);
            check.due("the methods of the face that were read", declared.size(), 28);
            for (String name : declared.keySet()) {
                Set<String> reached = new TreeSet<>();
                check.due("rules 8 and 11: calls from " + name + " go at most eight deep",
                        depth(name, 1, reached) <= DEEPEST, true);
                check.due("rule 6: what " + name + " throws", reached.toString(), declared.get(name).toString());
            }
        }

        /** How deep the calls go; a circle of calls is deeper than what is allowed. */
        private int depth(String name, int level, Set<String> reached) {
            reached.addAll(thrown.getOrDefault(name, Set.of()));
            int deepest = level;
            for (String next : calls.getOrDefault(name, Set.of())) {
                if (deepest <= DEEPEST) {
                    deepest = Math.max(deepest, depth(next, level + 1, reached));
                }
            }
            return deepest;
        }
    }
}
