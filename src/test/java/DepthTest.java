import com.sun.source.tree.CompilationUnitTree;
import com.sun.source.tree.MethodInvocationTree;
import com.sun.source.tree.MethodTree;
import com.sun.source.tree.NewClassTree;
import com.sun.source.util.JavacTask;
import com.sun.source.util.TreePathScanner;
import com.sun.source.util.Trees;
import java.io.IOException;
import java.lang.reflect.Field;
import java.lang.reflect.Modifier;
import java.nio.file.Path;
import java.util.HashMap;
import java.util.HashSet;
import java.util.LinkedHashSet;
import java.util.List;
import java.util.Map;
import java.util.Set;
import java.util.TreeSet;
import javax.lang.model.element.Element;
import javax.tools.JavaCompiler;
import javax.tools.StandardJavaFileManager;
import javax.tools.ToolProvider;

/** Rules 8 and 11 of LANGUAGE.md: how deep calls go, what calls itself, and how many fields a class has. */
public final class DepthTest {
    private static final int MOST_DEEP = 8;
    private static final int MOST_FIELDS = 20;

    private final Map<Element, Set<Element>> calls;
    private final Map<Element, Integer> depths = new HashMap<>();
    private final Set<Element> open = new HashSet<>();
    private final Set<String> again = new TreeSet<>();

    private DepthTest(Map<Element, Set<Element>> calls) {
        this.calls = calls;
    }

    public static void main(String[] args) throws IOException {
        Check check = new Check();
        fields(check, AskBack.class);
        for (Class<?> inside : AskBack.class.getDeclaredClasses()) {
            fields(check, inside);
        }
        depths(check);
        check.end();
    }

    private static void fields(Check check, Class<?> of) {
        int many = 0;
        for (Field f : of.getDeclaredFields()) {
            many += Modifier.isStatic(f.getModifiers()) ? 0 : 1;
        }
        check.due("fields of " + of.getName() + " (" + many + ")", many <= MOST_FIELDS, true);
    }

    private static void depths(Check check) throws IOException {
        JavaCompiler compiler = ToolProvider.getSystemJavaCompiler();
        try (StandardJavaFileManager files = compiler.getStandardFileManager(null, null, null)) {
            JavacTask task = (JavacTask) compiler.getTask(null, files, null, List.of("-proc:none"), null,
                    files.getJavaFileObjects(Path.of("src/main/java/AskBack.java")));
            CallReader reader = new CallReader(Trees.instance(task));
            for (CompilationUnitTree unit : task.parse()) {
                task.analyze();
                reader.scan(unit, null);
            }
            DepthTest test = new DepthTest(reader.calls);
            int deepest = 0;
            for (Element method : reader.calls.keySet()) {
                deepest = Math.max(deepest, test.depth(method));
            }
            check.due("methods were seen", reader.calls.size() > 150, true);
            check.due("calls were seen", deepest > 3, true);
            check.due("calls go at most eight deep (" + deepest + ")", deepest <= MOST_DEEP, true);
            check.same("what calls itself", test.again.toString(), "[AskBack.Search.reach]");
        }
    }

    /** How many methods of the class stand open at once from this one on; one that is open already is noted. */
    private int depth(Element method) {
        if (!calls.containsKey(method)) {
            return 0;
        }
        if (!open.add(method)) {
            again.add(method.getEnclosingElement() + "." + method.getSimpleName());
            return 0;
        }
        Integer known = depths.get(method);
        if (known == null) {
            int most = 0;
            for (Element called : calls.get(method)) {
                most = Math.max(most, depth(called));
            }
            known = most + 1;
            depths.put(method, known);
        }
        open.remove(method);
        return known;
    }

    /** Which methods and constructors each one calls. */
    private static final class CallReader extends TreePathScanner<Void, Void> {
        final Map<Element, Set<Element>> calls = new HashMap<>();
        private final Trees trees;
        private Element in = null;

        CallReader(Trees trees) {
            this.trees = trees;
        }

        @Override
        public Void visitMethod(MethodTree node, Void none) {
            in = trees.getElement(getCurrentPath());
            calls.put(in, new LinkedHashSet<>());
            super.visitMethod(node, none);
            in = null;
            return null;
        }

        @Override
        public Void visitMethodInvocation(MethodInvocationTree node, Void none) {
            note();
            return super.visitMethodInvocation(node, none);
        }

        @Override
        public Void visitNewClass(NewClassTree node, Void none) {
            note();
            return super.visitNewClass(node, none);
        }

        private void note() {
            if (in != null) {
                calls.get(in).add(trees.getElement(getCurrentPath()));
            }
        }
    }
}
