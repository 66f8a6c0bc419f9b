import com.sun.source.tree.AssertTree;
import com.sun.source.tree.BlockTree;
import com.sun.source.tree.ClassTree;
import com.sun.source.tree.CompilationUnitTree;
import com.sun.source.tree.InstanceOfTree;
import com.sun.source.tree.LambdaExpressionTree;
import com.sun.source.tree.MemberReferenceTree;
import com.sun.source.tree.MemberSelectTree;
import com.sun.source.tree.MethodInvocationTree;
import com.sun.source.tree.MethodTree;
import com.sun.source.tree.NewClassTree;
import com.sun.source.tree.SynchronizedTree;
import com.sun.source.tree.ThrowTree;
import com.sun.source.tree.Tree;
import com.sun.source.tree.TryTree;
import com.sun.source.tree.TypeCastTree;
import com.sun.source.tree.VariableTree;
import com.sun.source.tree.WhileLoopTree;
import com.sun.source.util.JavacTask;
import com.sun.source.util.TreeScanner;
import java.io.IOException;
import java.nio.file.Path;
import java.util.Set;
import java.util.TreeSet;
import javax.lang.model.element.Modifier;
import javax.tools.JavaCompiler;
import javax.tools.StandardJavaFileManager;
import javax.tools.ToolProvider;

/**
 * The class keeps to those rules of LANGUAGE.md that its text can show. Where the class needs less
 * than a rule leaves (no try, no library but Math, no cast but to int), the test leaves no more.
 */
public final class LanguageRules extends Sentences {
    private static final Path MAIN = Path.of("src", "main", "java", "CopyPolls.java");
    /** The document asks for the last one in promise 19, though rule 6 does not list it. */
    private static final Set<String> THROWN = Set.of("IllegalStateException",
        "IllegalArgumentException", "IndexOutOfBoundsException", "ArithmeticException",
        "UnsupportedOperationException", "RuntimeException", "ArrayIndexOutOfBoundsException");
    private static final Set<String> TYPES = Set.of("int", "long", "boolean", "void");
    private static final Set<String> MATH = Set.of("Math.max", "Math.min");

    private static final int MOST_PARAMETERS = 7;
    private static final int MOST_LINES = 60;
    private static final int MOST_CLASSES = 12;
    private static final int MOST_FIELDS = 20;

    private static CompilationUnitTree read() throws IOException {
        JavaCompiler compiler = ToolProvider.getSystemJavaCompiler();
        try (StandardJavaFileManager files = compiler.getStandardFileManager(null, null, null)) {
            JavacTask task = (JavacTask) compiler.getTask(null, files, null, null, null,
                files.getJavaFileObjects(MAIN));
            return task.parse().iterator().next();
        }
    }

    private static final class Scanner extends TreeScanner<Void, Void> {
        final Set<String> breaks = new TreeSet<>();
        final Set<String> classes = new TreeSet<>();
        final Set<String> open = new TreeSet<>();
        final Set<String> closed = new TreeSet<>();
        private String method = "";

        private void never(int rule, Tree tree) {
            breaks.add("rule " + rule + ": " + tree);
        }

        private void unless(boolean kept, int rule, Tree tree) {
            if (!kept) {
                never(rule, tree);
            }
        }

        @Override
        public Void visitClass(ClassTree tree, Void none) {
            Set<Modifier> flags = tree.getModifiers().getFlags();
            boolean isOuter = classes.isEmpty();
            classes.add(tree.getSimpleName().toString());
            unless(flags.contains(isOuter ? Modifier.PUBLIC : Modifier.STATIC), 1, tree);
            unless(isOuter || !flags.contains(Modifier.PUBLIC), 1, tree);
            int fields = 0;
            for (Tree member : tree.getMembers()) {
                unless(!(member instanceof BlockTree), 5, member);
                if (member instanceof VariableTree) {
                    fields += field((VariableTree) member);
                }
            }
            unless(fields <= MOST_FIELDS, 11, tree);
            return super.visitClass(tree, none);
        }

        /** 1 for a field of objects, 0 for a constant. */
        private int field(VariableTree tree) {
            Set<Modifier> flags = tree.getModifiers().getFlags();
            boolean isStatic = flags.contains(Modifier.STATIC);
            unless(!isStatic || flags.contains(Modifier.FINAL) && tree.getInitializer() != null, 5, tree);
            return isStatic ? 0 : 1;
        }

        @Override
        public Void visitMethod(MethodTree tree, Void none) {
            method = tree.getName().toString();
            Set<Modifier> flags = tree.getModifiers().getFlags();
            (flags.contains(Modifier.PUBLIC) ? open : closed).add(method);
            unless(tree.getParameters().size() <= MOST_PARAMETERS, 11, tree);
            unless(tree.toString().lines().count() <= MOST_LINES, 11, tree);
            unless(!Set.of("equals", "hashCode", "toString").contains(method), 6, tree);
            return super.visitMethod(tree, none);
        }

        @Override
        public Void visitVariable(VariableTree tree, Void none) {
            String type = tree.getType().toString().replace("[]", "");
            unless(TYPES.contains(type) || type.matches("Store|Item|Row"), 3, tree);
            return super.visitVariable(tree, none);
        }

        @Override
        public Void visitThrow(ThrowTree tree, Void none) {
            unless(!method.equals("<init>"), 6, tree);
            unless(tree.getExpression() instanceof NewClassTree
                && THROWN.contains(((NewClassTree) tree.getExpression()).getIdentifier().toString()), 6, tree);
            return super.visitThrow(tree, none);
        }

        @Override
        public Void visitNewClass(NewClassTree tree, Void none) {
            String made = tree.getIdentifier().toString();
            unless(THROWN.contains(made) || made.matches("Store|Item|Row"), 4, tree);
            unless(tree.getClassBody() == null, 2, tree);
            return super.visitNewClass(tree, none);
        }

        @Override
        public Void visitMethodInvocation(MethodInvocationTree tree, Void none) {
            Tree called = tree.getMethodSelect();
            if (called instanceof MemberSelectTree) {
                // By the style of the language, what begins with a capital is a class.
                boolean isLibrary = Character.isUpperCase(called.toString().charAt(0));
                unless(!isLibrary || MATH.contains(called.toString()), 4, tree);
            }
            return super.visitMethodInvocation(tree, none);
        }

        @Override
        public Void visitTypeCast(TypeCastTree tree, Void none) {
            unless(tree.getType().toString().equals("int"), 6, tree);
            return super.visitTypeCast(tree, none);
        }

        @Override
        public Void visitTry(TryTree tree, Void none) {
            never(6, tree);
            return null;
        }

        @Override
        public Void visitLambdaExpression(LambdaExpressionTree tree, Void none) {
            never(2, tree);
            return null;
        }

        @Override
        public Void visitMemberReference(MemberReferenceTree tree, Void none) {
            never(2, tree);
            return null;
        }

        @Override
        public Void visitSynchronized(SynchronizedTree tree, Void none) {
            never(6, tree);
            return null;
        }

        @Override
        public Void visitAssert(AssertTree tree, Void none) {
            never(6, tree);
            return null;
        }

        @Override
        public Void visitInstanceOf(InstanceOfTree tree, Void none) {
            never(6, tree);
            return null;
        }

        /** Every loop of the class has a counter in its own line. */
        @Override
        public Void visitWhileLoop(WhileLoopTree tree, Void none) {
            never(9, tree);
            return null;
        }
    }

    public static void main(String[] args) throws IOException {
        CompilationUnitTree file = read();
        says("LANGUAGE.md", "one file without a package line, one public class");
        due("package", file.getPackage() == null, true);
        due("imports", file.getImports().size(), 0);
        due("classes of the file", file.getTypeDecls().size(), 1);

        Scanner scanner = new Scanner();
        scanner.scan(file, null);
        says("LANGUAGE.md", "what no line may hold");
        due("lines", scanner.breaks, Set.of());
        says("LANGUAGE.md", "rule 1: no private method bears the name of a public one");
        scanner.closed.retainAll(scanner.open);
        scanner.closed.remove("<init>");
        due("names", scanner.closed, Set.of());
        says("LANGUAGE.md", "rule 11: the file has at most some twelve classes");
        due("classes", scanner.classes.size() <= MOST_CLASSES, true);
        end();
    }
}
