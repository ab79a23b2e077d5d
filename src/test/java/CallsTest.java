import com.sun.source.tree.CompilationUnitTree;
import com.sun.source.tree.MethodInvocationTree;
import com.sun.source.tree.MethodTree;
import com.sun.source.tree.NewClassTree;
import com.sun.source.util.JavacTask;
import com.sun.source.util.TreePathScanner;
import com.sun.source.util.Trees;
import java.io.IOException;
import java.nio.file.Path;
import java.util.HashMap;
import java.util.List;
import java.util.Map;
import java.util.Set;
import java.util.TreeMap;
import java.util.TreeSet;
import javax.lang.model.element.Element;
import javax.lang.model.element.TypeElement;
import javax.tools.JavaCompiler;
import javax.tools.StandardJavaFileManager;
import javax.tools.ToolProvider;

/** Who calls whom in the class, as the compiler sees it: rules 4, 8 and 11 of LANGUAGE.md. */
public final class CallsTest {
    private static final int DEEPEST = 8;
    private static final Set<String> LIBRARY = Set.of("Math.max", "Math.min", "Integer.bitCount", "System.arraycopy");
    /** Those that come back to themselves: the grammar's, and the acts'. Each carries how deep it is. */
    private static final Set<String> ROUND = Set.of("BackHouse.Reader.either", "BackHouse.Reader.both",
        "BackHouse.Reader.compared", "BackHouse.Reader.sum", "BackHouse.Reader.product", "BackHouse.Reader.operand",
        "BackHouse.Acts.perform");

    private final Map<String, Set<String>> calls = new TreeMap<>();
    private final Set<String> library = new TreeSet<>();
    private final Map<String, Integer> depths = new HashMap<>();

    public static void main(String[] args) throws IOException {
        CallsTest test = new CallsTest();
        test.read(Path.of("src/main/java/BackHouse.java"));
        Due.due("methods and constructors: " + test.calls.size(), test.calls.size() > 37 ? 1 : 0, 1);
        for (String name : test.library) {
            Due.due("of the library: " + name, LIBRARY.contains(name) ? 1 : 0, 1);
        }
        for (String name : test.calls.keySet()) {
            boolean round = test.from(name).contains(name);
            Due.due("comes back to itself: " + name, round ? 1 : 0, ROUND.contains(name) ? 1 : 0);
        }
        for (String name : test.calls.keySet()) {
            int depth = test.depth(name);
            Due.due("at most eight deep: " + name + ", " + depth, depth <= DEEPEST ? 1 : 0, 1);
        }
        Due.close();
    }

    private void read(Path source) throws IOException {
        JavaCompiler compiler = ToolProvider.getSystemJavaCompiler();
        try (StandardJavaFileManager files = compiler.getStandardFileManager(null, null, null)) {
            JavacTask task = (JavacTask) compiler.getTask(null, files, null, List.of("-proc:none"), null,
                    files.getJavaFileObjects(source));
            Trees trees = Trees.instance(task);
            Iterable<? extends CompilationUnitTree> units = task.parse();
            task.analyze();
            for (CompilationUnitTree unit : units) {
                new Callers(trees).scan(unit, null);
            }
        }
    }

    private static String nameOf(Element method) {
        TypeElement owner = (TypeElement) method.getEnclosingElement();
        return owner.getQualifiedName() + "." + method.getSimpleName();
    }

    private final class Callers extends TreePathScanner<Void, String> {
        private final Trees trees;

        Callers(Trees trees) {
            this.trees = trees;
        }

        @Override
        public Void visitMethod(MethodTree method, String outer) {
            String name = nameOf(trees.getElement(getCurrentPath()));
            calls.putIfAbsent(name, new TreeSet<>());
            return super.visitMethod(method, name);
        }

        @Override
        public Void visitMethodInvocation(MethodInvocationTree call, String caller) {
            note(caller);
            return super.visitMethodInvocation(call, caller);
        }

        @Override
        public Void visitNewClass(NewClassTree call, String caller) {
            note(caller);
            return super.visitNewClass(call, caller);
        }

        private void note(String caller) {
            String name = nameOf(trees.getElement(getCurrentPath()));
            if (!name.startsWith("BackHouse")) {
                String unpacked = name.replace("java.lang.", "");
                if (!unpacked.equals("Object.<init>")) {
                    library.add(unpacked);
                }
            } else if (caller != null) {
                calls.get(caller).add(name);
            }
        }
    }

    /** All that a method may reach. */
    private Set<String> from(String name) {
        Set<String> reached = new TreeSet<>(calls.getOrDefault(name, Set.of()));
        for (int before = 0; before < reached.size();) {
            before = reached.size();
            for (String other : List.copyOf(reached)) {
                reached.addAll(calls.getOrDefault(other, Set.of()));
            }
        }
        return reached;
    }

    /** How many calls stand open at once, itself too, those that come back to themselves left out. */
    private int depth(String name) {
        Integer known = depths.get(name);
        if (known != null) {
            return known;
        }
        int deepest = 0;
        for (String other : calls.getOrDefault(name, Set.of())) {
            boolean round = other.equals(name) || from(other).contains(name);
            deepest = round ? deepest : Math.max(deepest, depth(other));
        }
        int depth = deepest + (from(name).contains(name) ? 0 : 1);
        depths.put(name, depth);
        return depth;
    }
}
