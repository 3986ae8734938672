import com.sun.source.tree.AssertTree;
import com.sun.source.tree.BinaryTree;
import com.sun.source.tree.BlockTree;
import com.sun.source.tree.ClassTree;
import com.sun.source.tree.CompilationUnitTree;
import com.sun.source.tree.ExpressionTree;
import com.sun.source.tree.LambdaExpressionTree;
import com.sun.source.tree.MemberReferenceTree;
import com.sun.source.tree.MethodInvocationTree;
import com.sun.source.tree.MethodTree;
import com.sun.source.tree.NewClassTree;
import com.sun.source.tree.SynchronizedTree;
import com.sun.source.tree.ThrowTree;
import com.sun.source.tree.Tree;
import com.sun.source.tree.TryTree;
import com.sun.source.tree.VariableTree;
import com.sun.source.util.JavacTask;
import com.sun.source.util.SourcePositions;
import com.sun.source.util.TreePathScanner;
import com.sun.source.util.Trees;
import java.io.IOException;
import java.nio.file.Path;
import java.util.ArrayDeque;
import java.util.Deque;
import java.util.LinkedHashMap;
import java.util.List;
import java.util.Map;
import java.util.Set;
import java.util.TreeSet;
import javax.lang.model.element.Element;
import javax.lang.model.element.ElementKind;
import javax.lang.model.element.Modifier;
import javax.lang.model.type.TypeKind;
import javax.lang.model.type.TypeMirror;
import javax.tools.JavaCompiler;
import javax.tools.StandardJavaFileManager;
import javax.tools.ToolProvider;

/** The rules of ../shared/LANGUAGE.md that can be read off the program's text; the numbers are the rules'. */
public final class LanguageTest {
    private static final Path PROGRAM = Path.of("src/main/java/SealedGateway.java");
    private static final Set<String> LIBRARY = Set.of(
        "java.lang.Math.min", "java.lang.Math.max", "java.lang.System.arraycopy", "java.util.Arrays.fill");
    private static final Set<String> THROWN = Set.of("java.lang.IllegalStateException",
        "java.lang.IllegalArgumentException", "java.lang.IndexOutOfBoundsException");
    private static final int CLASSES = 12;
    private static final int FIELDS = 20;
    private static final int LINES = 60;
    private static final int PARAMETERS = 7;
    private static final int DEPTH = 8;

    private final Due due = new Due("LanguageTest");
    private final Map<String, Set<String>> calls = new LinkedHashMap<>();

    private final class Reader extends TreePathScanner<Void, Void> {
        private final Trees trees;
        private final CompilationUnitTree unit;
        private final Deque<String> methods = new ArrayDeque<>();
        private int classes;

        Reader(Trees trees, CompilationUnitTree unit) {
            this.trees = trees;
            this.unit = unit;
        }

        private Element here() {
            return trees.getElement(getCurrentPath());
        }

        private String nameOf(Element e) {
            return e.getEnclosingElement() + "." + e.getSimpleName();
        }

        private long linesOf(Tree tree) {
            SourcePositions at = trees.getSourcePositions();
            return unit.getLineMap().getLineNumber(at.getEndPosition(unit, tree))
                - unit.getLineMap().getLineNumber(at.getStartPosition(unit, tree)) + 1;
        }

        private boolean isOwn(String name) {
            return name.startsWith("SealedGateway.");
        }

        private void mustNot(int rule, String what, Tree tree) {
            due.tell("rule " + rule + ": " + what + ": " + tree);
        }

        @Override
        public Void visitClass(ClassTree tree, Void v) {
            classes++;
            due.is("2: so many classes", classes <= CLASSES, true);
            Set<Modifier> flags = here().getModifiers();
            boolean isFace = here().getEnclosingElement().getKind() == ElementKind.PACKAGE;
            due.is("1, 2: " + here() + " is the face, or static and private",
                isFace || flags.contains(Modifier.STATIC) && flags.contains(Modifier.PRIVATE), true);
            due.is("2: " + here() + " has a name", tree.getSimpleName().length() > 0, true);
            long fields = here().getEnclosedElements().stream()
                .filter(e -> e.getKind() == ElementKind.FIELD && !e.getModifiers().contains(Modifier.STATIC)).count();
            due.is("11: so many fields has " + here() + ": " + fields, fields <= FIELDS, true);
            due.is("5: a static block", tree.getMembers().stream().anyMatch(m -> m instanceof BlockTree), false);
            return super.visitClass(tree, v);
        }

        @Override
        public Void visitMethod(MethodTree tree, Void v) {
            String name = nameOf(here());
            due.is("11: " + name + " has so many lines: " + linesOf(tree), linesOf(tree) <= LINES, true);
            due.is("11: " + name + " has so many parameters", tree.getParameters().size() <= PARAMETERS, true);
            // Calls are told by name: two methods of one class with one name would be one.
            boolean isSecond = !name.endsWith(".<init>") && calls.containsKey(name);
            due.is("two methods have the name " + name, isSecond, false);
            calls.putIfAbsent(name, new TreeSet<>());
            methods.push(name);
            super.visitMethod(tree, v);
            methods.pop();
            return null;
        }

        @Override
        public Void visitMethodInvocation(MethodInvocationTree tree, Void v) {
            String name = nameOf(here());
            boolean isRoot = name.equals("java.lang.Object.<init>");
            due.is("4: " + name + " may be called", isOwn(name) || isRoot || LIBRARY.contains(name), true);
            if (!methods.isEmpty() && !isRoot) {
                calls.get(methods.peek()).add(name);
            }
            return super.visitMethodInvocation(tree, v);
        }

        @Override
        public Void visitNewClass(NewClassTree tree, Void v) {
            String made = nameOf(here()).replace(".<init>", "");
            due.is("4: " + made + " may be made", isOwn(made) || THROWN.contains(made), true);
            if (!methods.isEmpty()) {
                calls.get(methods.peek()).add(made + ".<init>");
            }
            return super.visitNewClass(tree, v);
        }

        @Override
        public Void visitVariable(VariableTree tree, Void v) {
            boolean isStatic = here().getModifiers().contains(Modifier.STATIC);
            due.is("5: static " + tree + " is a constant", !isStatic || isConstant(tree), true);
            due.is("3: " + tree + " is of a type that may be", mayBe(here().asType()), true);
            return super.visitVariable(tree, v);
        }

        private boolean isConstant(VariableTree tree) {
            return here().getModifiers().contains(Modifier.FINAL)
                && here().asType().getKind().isPrimitive() && tree.getInitializer() != null;
        }

        private boolean mayBe(TypeMirror type) {
            if (type.getKind() == TypeKind.ARRAY) {
                String of = type.toString().replaceFirst("\\[\\]$", "");
                return Set.of("int", "long", "byte").contains(of) || isOwn(of) && !of.endsWith("]");
            }
            return Set.of("int", "long", "boolean").contains(type.toString()) || isOwn(type.toString());
        }

        @Override
        public Void visitThrow(ThrowTree tree, Void v) {
            ExpressionTree thrown = tree.getExpression();
            boolean isWritten = thrown instanceof NewClassTree made
                && made.getArguments().stream().allMatch(a -> a.getKind() == Tree.Kind.STRING_LITERAL);
            due.is("6: " + tree + " has a written text", isWritten, true);
            due.is("6: a constructor throws", methods.peek().endsWith(".<init>"), false);
            return super.visitThrow(tree, v);
        }

        @Override
        public Void visitBinary(BinaryTree tree, Void v) {
            String type = trees.getTypeMirror(getCurrentPath()).toString();
            due.is("10: " + tree + " is a number or a boolean", Set.of("int", "long", "boolean").contains(type), true);
            return super.visitBinary(tree, v);
        }

        @Override
        public Void visitTry(TryTree tree, Void v) {
            mustNot(6, "the machine's own exceptions are not caught, and no others need be", tree);
            return super.visitTry(tree, v);
        }

        @Override
        public Void visitLambdaExpression(LambdaExpressionTree tree, Void v) {
            mustNot(2, "a lambda", tree);
            return super.visitLambdaExpression(tree, v);
        }

        @Override
        public Void visitMemberReference(MemberReferenceTree tree, Void v) {
            mustNot(2, "a method reference", tree);
            return super.visitMemberReference(tree, v);
        }

        @Override
        public Void visitSynchronized(SynchronizedTree tree, Void v) {
            mustNot(6, "synchronized", tree);
            return super.visitSynchronized(tree, v);
        }

        @Override
        public Void visitAssert(AssertTree tree, Void v) {
            mustNot(6, "assert", tree);
            return super.visitAssert(tree, v);
        }
    }

    private void read() throws IOException {
        JavaCompiler javac = ToolProvider.getSystemJavaCompiler();
        try (StandardJavaFileManager files = javac.getStandardFileManager(null, null, null)) {
            JavacTask task = (JavacTask) javac.getTask(null, files, null, List.of("-proc:none"), null,
                files.getJavaFileObjects(PROGRAM));
            Iterable<? extends CompilationUnitTree> units = task.parse();
            task.analyze();
            for (CompilationUnitTree unit : units) {
                due.is("no package line", unit.getPackageName() == null, true);
                due.is("one class in the file", unit.getTypeDecls().size(), 1);
                new Reader(Trees.instance(task), unit).scan(unit, null);
            }
        }
    }

    /** How many calls stand open at once below a method, itself counted; a call of one that is open is told. */
    private int depthOf(String name, Deque<String> open) {
        if (open.contains(name)) {
            due.tell("8: " + name + " calls itself by " + open);
            return 1;
        }
        open.push(name);
        int deepest = 0;
        for (String called : calls.getOrDefault(name, Set.of())) {
            deepest = Math.max(deepest, depthOf(called, open));
        }
        open.pop();
        return deepest + 1;
    }

    public static void main(String[] args) throws IOException {
        LanguageTest test = new LanguageTest();
        test.read();
        for (String name : test.calls.keySet()) {
            int depth = test.depthOf(name, new ArrayDeque<>());
            test.due.is("11: below " + name + " calls go so deep: " + depth, depth <= DEPTH, true);
        }
        test.due.finish();
    }
}
