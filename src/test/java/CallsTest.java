import com.sun.source.tree.AssertTree;
import com.sun.source.tree.BinaryTree;
import com.sun.source.tree.ClassTree;
import com.sun.source.tree.CompilationUnitTree;
import com.sun.source.tree.LambdaExpressionTree;
import com.sun.source.tree.MemberReferenceTree;
import com.sun.source.tree.MethodInvocationTree;
import com.sun.source.tree.MethodTree;
import com.sun.source.tree.NewArrayTree;
import com.sun.source.tree.NewClassTree;
import com.sun.source.tree.SynchronizedTree;
import com.sun.source.tree.ThrowTree;
import com.sun.source.tree.Tree;
import com.sun.source.tree.TryTree;
import com.sun.source.util.JavacTask;
import com.sun.source.util.TreePathScanner;
import com.sun.source.util.Trees;
import java.io.IOException;
import java.nio.file.Path;
import java.util.Arrays;
import java.util.HashSet;
import java.util.List;
import java.util.Map;
import java.util.Set;
import java.util.TreeMap;
import java.util.TreeSet;
import javax.lang.model.element.Element;
import javax.lang.model.type.TypeMirror;
import javax.tools.JavaCompiler;
import javax.tools.StandardJavaFileManager;
import javax.tools.ToolProvider;

/** The rules of LANGUAGE.md that can be seen in the calls that the compiler finds in the program. */
public final class CallsTest {
    /** Rule 4, as far as the program needs it. */
    private static final Set<String> LIBRARY = new HashSet<>(Arrays.asList(
        "java.util.Arrays.fill(int[],int)", "java.util.Arrays.fill(long[],long)",
        "java.lang.System.arraycopy(java.lang.Object,int,java.lang.Object,int,int)",
        "java.lang.Math.min(int,int)", "java.lang.Math.max(int,int)",
        "java.lang.Integer.bitCount(int)", "java.lang.Integer.numberOfTrailingZeros(int)",
        "java.lang.String.length()", "java.lang.String.charAt(int)"));
    /** Rule 11: calls that are no recursion go at most eight deep. */
    private static final int DEEPEST = 8;

    /** By each method: the own methods that it calls. */
    private final Map<String, Set<String>> calls = new TreeMap<>();
    private final Set<String> open = new TreeSet<>();
    private final Set<String> making = new TreeSet<>();
    private final Set<String> library = new TreeSet<>();
    private final Set<String> refused = new TreeSet<>();

    private CallsTest() {
    }

    public static void main(String[] args) throws IOException {
        CallsTest test = new CallsTest();
        test.scan(Path.of("src/main/java/NameGate.java"));
        test.depths();
        test.others();
        Check.finish();
    }

    private void scan(Path source) throws IOException {
        JavaCompiler compiler = ToolProvider.getSystemJavaCompiler();
        try (StandardJavaFileManager files = compiler.getStandardFileManager(null, null, null)) {
            JavacTask task = (JavacTask) compiler.getTask(null, files, null, List.of("-proc:none"), null,
                files.getJavaFileObjects(source));
            Iterable<? extends CompilationUnitTree> units = task.parse();
            task.analyze();
            for (CompilationUnitTree unit : units) {
                new Scanner(Trees.instance(task)).scan(unit, null);
            }
        }
    }

    private void depths() {
        Check.part("rule 11: calls go at most eight deep");
        Check.due("methods seen", calls.size() > 150 ? 1 : 0, 1);
        Check.due("calls of the face", open.size(), 56);
        for (String method : open) {
            int depth = depth(method, new HashSet<>());
            Check.due(method + " goes " + depth + " deep", depth <= DEEPEST ? 1 : 0, 1);
        }
    }

    /** Rule 8: no method comes back to itself here, so no guard is needed. */
    private int depth(String method, Set<String> above) {
        if (!above.add(method)) {
            Check.due(method + " comes back to itself", 1, 0);
            return 0;
        }
        int deepest = 0;
        for (String called : calls.getOrDefault(method, Set.of())) {
            deepest = Math.max(deepest, depth(called, above));
        }
        above.remove(method);
        return deepest + 1;
    }

    private void others() {
        Check.part("rule 4: the library");
        Check.due("seen " + library, library.size() > 3 ? 1 : 0, 1);
        for (String call : library) {
            Check.due(call, LIBRARY.contains(call) ? 1 : 0, 1);
        }
        Check.part("rules 2, 6, 10: what is refused");
        for (String found : refused) {
            Check.due(found, 1, 0);
        }
        Check.part("rule 12: rows are made in constructors, towns by town()");
        for (String method : making) {
            boolean may = method.contains("<init>") || method.equals("NameGate.Reader.read(byte[],int)");
            Check.due(method + " makes something", may ? 0 : 1, 0);
        }
        Set<String> used = new HashSet<>(open);
        calls.values().forEach(used::addAll);
        Check.part("no method is left over");
        for (String method : calls.keySet()) {
            Check.due(method + " is called", used.contains(method) || method.contains("<init>") ? 1 : 0, 1);
        }
    }

    private final class Scanner extends TreePathScanner<Void, Void> {
        private final Trees trees;
        private String method = "a field's <init>";

        Scanner(Trees trees) {
            this.trees = trees;
        }

        private String full(Element element) {
            return element.getEnclosingElement() + "." + element;
        }

        private void refuse(String what, Tree tree) {
            refused.add(what + ": " + tree);
        }

        @Override
        public Void visitMethod(MethodTree tree, Void none) {
            Element element = trees.getElement(getCurrentPath());
            String before = method;
            method = element.getEnclosingElement() + "." + (tree.getReturnType() == null ? "<init>" : element);
            calls.computeIfAbsent(method, name -> new TreeSet<>());
            boolean isOfFace = element.getEnclosingElement().toString().equals("NameGate") && tree.getReturnType() != null
                && tree.getModifiers().getFlags().contains(javax.lang.model.element.Modifier.PUBLIC);
            if (isOfFace) {
                open.add(method);
            }
            super.visitMethod(tree, none);
            method = before;
            return null;
        }

        @Override
        public Void visitMethodInvocation(MethodInvocationTree tree, Void none) {
            Element element = trees.getElement(getCurrentPath());
            String called = full(element);
            if (called.startsWith("NameGate.")) {
                calls.computeIfAbsent(method, name -> new TreeSet<>()).add(called);
            } else if (!element.getSimpleName().contentEquals("<init>")) {
                library.add(called);
            }
            return super.visitMethodInvocation(tree, none);
        }

        @Override
        public Void visitNewClass(NewClassTree tree, Void none) {
            making.add(method);
            if (tree.getClassBody() != null) {
                refuse("a class without a name", tree);
            }
            return super.visitNewClass(tree, none);
        }

        @Override
        public Void visitNewArray(NewArrayTree tree, Void none) {
            making.add(method);
            return super.visitNewArray(tree, none);
        }

        @Override
        public Void visitBinary(BinaryTree tree, Void none) {
            TypeMirror type = trees.getTypeMirror(getCurrentPath());
            if (tree.getKind() == Tree.Kind.PLUS && type.toString().contains("String")) {
                refuse("texts joined by +", tree);
            }
            return super.visitBinary(tree, none);
        }

        @Override
        public Void visitClass(ClassTree tree, Void none) {
            Element around = trees.getElement(getCurrentPath()).getEnclosingElement();
            if (around.getKind() == javax.lang.model.element.ElementKind.METHOD) {
                refuse("a class in a method", tree);
            }
            return super.visitClass(tree, none);
        }

        @Override
        public Void visitLambdaExpression(LambdaExpressionTree tree, Void none) {
            refuse("a lambda", tree);
            return super.visitLambdaExpression(tree, none);
        }

        @Override
        public Void visitMemberReference(MemberReferenceTree tree, Void none) {
            refuse("a method reference", tree);
            return super.visitMemberReference(tree, none);
        }

        @Override
        public Void visitThrow(ThrowTree tree, Void none) {
            refuse("throw", tree);
            return super.visitThrow(tree, none);
        }

        @Override
        public Void visitTry(TryTree tree, Void none) {
            refuse("try", tree);
            return super.visitTry(tree, none);
        }

        @Override
        public Void visitSynchronized(SynchronizedTree tree, Void none) {
            refuse("synchronized", tree);
            return super.visitSynchronized(tree, none);
        }

        @Override
        public Void visitAssert(AssertTree tree, Void none) {
            refuse("assert", tree);
            return super.visitAssert(tree, none);
        }
    }
}
