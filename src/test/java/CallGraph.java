import com.sun.source.tree.ClassTree;
import com.sun.source.tree.CompilationUnitTree;
import com.sun.source.tree.MethodInvocationTree;
import com.sun.source.tree.MethodTree;
import com.sun.source.tree.NewClassTree;
import com.sun.source.util.JavacTask;
import com.sun.source.util.TreePathScanner;
import com.sun.source.util.Trees;
import java.io.IOException;
import java.nio.file.Path;
import java.util.ArrayList;
import java.util.HashMap;
import java.util.LinkedHashSet;
import java.util.List;
import java.util.Map;
import java.util.Set;
import java.util.TreeSet;
import javax.lang.model.element.Element;
import javax.lang.model.element.ExecutableElement;
import javax.lang.model.element.TypeElement;
import javax.lang.model.util.ElementFilter;
import javax.tools.JavaCompiler;
import javax.tools.StandardJavaFileManager;
import javax.tools.ToolProvider;

/** Who calls whom in a source file, as the compiler itself reads it. */
final class CallGraph {
    private final Map<ExecutableElement, Set<ExecutableElement>> calls = new HashMap<>();
    private final Map<ExecutableElement, List<ExecutableElement>> longest = new HashMap<>();
    private final Set<ExecutableElement> open = new LinkedHashSet<>();
    private final Set<String> recursive = new TreeSet<>();
    private JavacTask task;

    CallGraph(Path source) throws IOException {
        JavaCompiler compiler = ToolProvider.getSystemJavaCompiler();
        try (StandardJavaFileManager files = compiler.getStandardFileManager(null, null, null)) {
            task = (JavacTask) compiler.getTask(null, files, null, List.of("-proc:none"), null,
                    files.getJavaFileObjects(source));
            Iterable<? extends CompilationUnitTree> units = task.parse();
            task.analyze();
            new Calls().scan(units, null);
        }
    }

    private final class Calls extends TreePathScanner<Void, Void> {
        private final Trees trees = Trees.instance(task);
        private TypeElement inClass;
        private ExecutableElement inMethod;

        @Override
        public Void visitClass(ClassTree tree, Void nothing) {
            TypeElement before = inClass;
            inClass = (TypeElement) trees.getElement(getCurrentPath());
            super.visitClass(tree, nothing);
            inClass = before;
            return null;
        }

        @Override
        public Void visitMethod(MethodTree tree, Void nothing) {
            inMethod = (ExecutableElement) trees.getElement(getCurrentPath());
            calls.computeIfAbsent(inMethod, method -> new LinkedHashSet<>());
            super.visitMethod(tree, nothing);
            inMethod = null;
            return null;
        }

        @Override
        public Void visitMethodInvocation(MethodInvocationTree tree, Void nothing) {
            ExecutableElement called = (ExecutableElement) trees.getElement(getCurrentPath());
            add(called);
            if (!tree.getMethodSelect().toString().startsWith("super.")) {
                overriding(called).forEach(this::add);
            }
            return super.visitMethodInvocation(tree, nothing);
        }

        @Override
        public Void visitNewClass(NewClassTree tree, Void nothing) {
            add((ExecutableElement) trees.getElement(getCurrentPath()));
            return super.visitNewClass(tree, nothing);
        }

        /** What stands in no method gives a field its first value: the constructors do that. */
        private void add(ExecutableElement called) {
            List<ExecutableElement> callers = inMethod != null ? List.of(inMethod)
                    : ElementFilter.constructorsIn(inClass.getEnclosedElements());
            for (ExecutableElement caller : callers) {
                calls.computeIfAbsent(caller, method -> new LinkedHashSet<>()).add(called);
            }
        }

        private List<ExecutableElement> overriding(ExecutableElement called) {
            List<ExecutableElement> all = new ArrayList<>();
            for (Element one : ElementFilter.typesIn(outermost(called).getEnclosedElements())) {
                TypeElement type = (TypeElement) one;
                for (ExecutableElement method : ElementFilter.methodsIn(type.getEnclosedElements())) {
                    if (task.getElements().overrides(method, called, type)) {
                        all.add(method);
                    }
                }
            }
            return all;
        }
    }

    private static TypeElement outermost(Element inside) {
        Element one = inside;
        while (one.getEnclosingElement() instanceof TypeElement || !(one instanceof TypeElement)) {
            one = one.getEnclosingElement();
        }
        return (TypeElement) one;
    }

    /** The methods and constructors of other files that this one calls. */
    Set<String> libraryCalls() {
        Set<String> names = new TreeSet<>();
        for (Set<ExecutableElement> called : calls.values()) {
            for (ExecutableElement one : called) {
                if (!calls.containsKey(one)) {
                    names.add(name(one));
                }
            }
        }
        return names;
    }

    /** The longest chain of calls, each one standing open under the one ahead of it; the library's too. */
    List<String> longestChain() {
        List<ExecutableElement> most = List.of();
        for (ExecutableElement method : calls.keySet()) {
            List<ExecutableElement> chain = chainFrom(method);
            most = chain.size() > most.size() ? chain : most;
        }
        return most.stream().map(CallGraph::name).toList();
    }

    /** Those that come to be called again while they stand open. */
    Set<String> recursive() {
        longestChain();
        return recursive;
    }

    private List<ExecutableElement> chainFrom(ExecutableElement method) {
        if (longest.containsKey(method)) {
            return longest.get(method);
        }
        if (!open.add(method)) {
            recursive.add(name(method));
            return List.of();
        }
        List<ExecutableElement> most = List.of();
        for (ExecutableElement called : calls.getOrDefault(method, Set.of())) {
            List<ExecutableElement> chain = chainFrom(called);
            most = chain.size() > most.size() ? chain : most;
        }
        open.remove(method);
        List<ExecutableElement> whole = new ArrayList<>(List.of(method));
        whole.addAll(most);
        longest.put(method, whole);
        return whole;
    }

    private static String name(ExecutableElement method) {
        return ((TypeElement) method.getEnclosingElement()).getQualifiedName() + "." + method.getSimpleName();
    }
}
