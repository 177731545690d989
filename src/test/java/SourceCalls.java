import com.sun.source.tree.ClassTree;
import com.sun.source.tree.CompilationUnitTree;
import com.sun.source.tree.MethodInvocationTree;
import com.sun.source.tree.MethodTree;
import com.sun.source.tree.NewClassTree;
import com.sun.source.util.JavacTask;
import com.sun.source.util.TreePathScanner;
import com.sun.source.util.Trees;
import java.io.IOException;
import java.nio.file.Path;
import java.util.ArrayList;
import java.util.List;
import java.util.Map;
import java.util.Set;
import java.util.TreeMap;
import java.util.TreeSet;
import javax.lang.model.element.Element;
import javax.lang.model.element.TypeElement;
import javax.tools.JavaCompiler;
import javax.tools.StandardJavaFileManager;
import javax.tools.ToolProvider;

/** Which methods of a source file call which, as the compiler itself tells. */
final class SourceCalls {
    /** Each method of the file, as Class.method(types), with those that it calls; made are calls, too. */
    final Map<String, Set<String>> calls = new TreeMap<>();

    SourceCalls(Path source) throws IOException {
        JavaCompiler compiler = ToolProvider.getSystemJavaCompiler();
        try (StandardJavaFileManager files = compiler.getStandardFileManager(null, null, null)) {
            JavacTask task = (JavacTask) compiler.getTask(null, files, null,
                    List.of("-proc:none"), null, files.getJavaFileObjects(source));
            Iterable<? extends CompilationUnitTree> units = task.parse();
            task.analyze();
            Trees trees = Trees.instance(task);
            for (CompilationUnitTree unit : units) {
                new Scanner(trees).scan(unit, null);
            }
        }
    }

    private static String name(Element method) {
        return ((TypeElement) method.getEnclosingElement()).getQualifiedName() + "." + method;
    }

    private final class Scanner extends TreePathScanner<Void, Void> {
        private final Trees trees;
        private String within = "";

        Scanner(Trees trees) {
            this.trees = trees;
        }

        /** What a field's own line calls is called by whoever makes an object of the class. */
        @Override
        public Void visitClass(ClassTree tree, Void none) {
            String around = within;
            TypeElement made = (TypeElement) trees.getElement(getCurrentPath());
            within = made.getQualifiedName() + " made";
            calls.put(within, new TreeSet<>());
            super.visitClass(tree, none);
            within = around;
            return null;
        }

        @Override
        public Void visitMethod(MethodTree tree, Void none) {
            String around = within;
            Element method = trees.getElement(getCurrentPath());
            if (tree.getReturnType() != null) {
                within = name(method);
                calls.put(within, new TreeSet<>());
            }
            super.visitMethod(tree, none);
            within = around;
            return null;
        }

        @Override
        public Void visitMethodInvocation(MethodInvocationTree tree, Void none) {
            Element called = trees.getElement(getCurrentPath());
            if (!called.getSimpleName().contentEquals("<init>")) {
                calls.get(within).add(name(called));
            }
            return super.visitMethodInvocation(tree, none);
        }

        @Override
        public Void visitNewClass(NewClassTree tree, Void none) {
            Element made = trees.getElement(getCurrentPath()).getEnclosingElement();
            calls.get(within).add(((TypeElement) made).getQualifiedName() + " made");
            return super.visitNewClass(tree, none);
        }
    }

    /** What is called but isn't of the file: the library. */
    Set<String> outside() {
        Set<String> all = new TreeSet<>();
        calls.values().forEach(all::addAll);
        all.removeAll(calls.keySet());
        return all;
    }

    /** The longest chain of open calls that begins with a method; a recursion is a chain without end. */
    List<String> deepest(String method) {
        return deepest(method, new ArrayList<>());
    }

    private List<String> deepest(String method, List<String> open) {
        open.add(method);
        List<String> longest = new ArrayList<>(open);
        for (String called : calls.getOrDefault(method, Set.of())) {
            if (open.contains(called)) {
                throw new IllegalStateException("recursion: " + open + " " + called);
            }
            List<String> chain = deepest(called, open);
            longest = chain.size() > longest.size() ? chain : longest;
        }
        open.remove(open.size() - 1);
        return longest;
    }
}
