import com.sun.source.tree.ClassTree;
import com.sun.source.tree.CompilationUnitTree;
import com.sun.source.tree.ExpressionTree;
import com.sun.source.tree.IdentifierTree;
import com.sun.source.tree.MemberSelectTree;
import com.sun.source.tree.MethodInvocationTree;
import com.sun.source.tree.MethodTree;
import com.sun.source.tree.NewClassTree;
import com.sun.source.util.JavacTask;
import com.sun.source.util.TreePath;
import com.sun.source.util.TreePathScanner;
import com.sun.source.util.Trees;
import java.nio.file.Path;
import java.util.ArrayList;
import java.util.HashMap;
import java.util.LinkedHashMap;
import java.util.List;
import java.util.Map;
import java.util.Set;
import javax.lang.model.element.Element;
import javax.lang.model.element.ElementKind;
import javax.lang.model.element.ExecutableElement;
import javax.lang.model.element.Modifier;
import javax.lang.model.element.TypeElement;
import javax.tools.JavaCompiler;
import javax.tools.StandardJavaFileManager;
import javax.tools.ToolProvider;

/** Rules 4, 8 and 11 of LANGUAGE.md: which library is called, how deep calls go, and that none is recursion. */
public final class CallDepthTest {
    private static final int DEEPEST = 8, MOST_PARAMETERS = 7;

    // What of rule 4's list the class has a use for, and the constructor that every class calls.
    private static final Set<String> LIBRARY = Set.of("Object.<init>", "Array.clone", "String.length", "String.charAt",
        "Math.min", "Math.max", "Math.abs", "System.arraycopy");

    /** A call as the source has it; one of super runs that very method, others may run what overrides it. */
    private record Call(ExecutableElement method, boolean isExact) {
    }

    private final JavacTask compiler;
    private final Map<ExecutableElement, List<Call>> calls = new LinkedHashMap<>();
    // Of the fields of a class: each of its constructors makes these calls.
    private final Map<TypeElement, List<Call>> callsOfFields = new HashMap<>();
    private final Map<ExecutableElement, Integer> depths = new HashMap<>();
    private final List<ExecutableElement> standing = new ArrayList<>();

    private CallDepthTest(JavacTask compiler) {
        this.compiler = compiler;
    }

    public static void main(String[] args) throws Exception {
        Path source = Path.of(args.length > 0 ? args[0] : "src/main/java/SaidWeather.java");
        JavaCompiler javac = ToolProvider.getSystemJavaCompiler();
        try (StandardJavaFileManager files = javac.getStandardFileManager(null, null, null)) {
            JavacTask task = (JavacTask) javac.getTask(null, files, null, List.of("-proc:none"), null,
                files.getJavaFileObjects(source));
            CallDepthTest test = new CallDepthTest(task);
            test.read();
            test.library();
            test.parameters();
            test.depth();
        }
        Due.end();
    }

    private void read() throws Exception {
        Iterable<? extends CompilationUnitTree> units = compiler.parse();
        compiler.analyze();
        Reader reader = new Reader(Trees.instance(compiler));
        for (CompilationUnitTree unit : units) {
            reader.scan(unit, null);
        }
        for (ExecutableElement method : calls.keySet()) {
            if (method.getKind() == ElementKind.CONSTRUCTOR) {
                calls.get(method).addAll(callsOfFields.get(method.getEnclosingElement()));
            }
        }
    }

    private void library() {
        for (List<Call> made : calls.values()) {
            for (Call call : made) {
                if (!calls.containsKey(call.method)) {
                    Due.is(told(call.method) + " may be called", LIBRARY.contains(told(call.method)) ? 1 : 0, 1);
                }
            }
        }
    }

    private void parameters() {
        for (ExecutableElement method : calls.keySet()) {
            int many = method.getParameters().size();
            Due.is(told(method) + " takes at most seven", many <= MOST_PARAMETERS ? 1 : 0, 1);
        }
    }

    private void depth() {
        for (ExecutableElement method : calls.keySet()) {
            int depth = depthOf(method);
            if (depth > DEEPEST) {
                Due.is(told(method) + " goes as deep as", depth, DEEPEST);
            }
        }
        for (ExecutableElement method : calls.keySet()) {
            if (told(method).equals("SaidWeather.act")) {
                Due.is("act and the seven bodies of a sure one's tells", depthOf(method), DEEPEST);
            }
        }
    }

    /** How many calls stand open at most where a method is the first of them. */
    private int depthOf(ExecutableElement method) {
        Integer known = depths.get(method);
        if (known != null) {
            return known;
        }
        if (standing.contains(method)) {
            Due.is(told(method) + " calls itself", 1, 0);
            return 0;
        }
        standing.add(method);
        int deepest = 0;
        for (Call call : calls.get(method)) {
            for (ExecutableElement target : targets(call)) {
                deepest = Math.max(deepest, depthOf(target));
            }
        }
        standing.remove(method);
        depths.put(method, deepest + 1);
        return deepest + 1;
    }

    private List<ExecutableElement> targets(Call call) {
        List<ExecutableElement> targets = new ArrayList<>();
        for (ExecutableElement method : calls.keySet()) {
            TypeElement type = (TypeElement) method.getEnclosingElement();
            boolean isOver = !call.isExact && compiler.getElements().overrides(method, call.method, type);
            if (method.equals(call.method) || isOver) {
                targets.add(method);
            }
        }
        return targets;
    }

    private static String told(ExecutableElement method) {
        return method.getEnclosingElement().getSimpleName() + "." + method.getSimpleName();
    }

    /** Writes down which method calls which. */
    private final class Reader extends TreePathScanner<Void, List<Call>> {
        private final Trees trees;

        Reader(Trees trees) {
            this.trees = trees;
        }

        @Override
        public Void visitClass(ClassTree tree, List<Call> outer) {
            List<Call> made = new ArrayList<>();
            callsOfFields.put((TypeElement) trees.getElement(getCurrentPath()), made);
            return super.visitClass(tree, made);
        }

        @Override
        public Void visitMethod(MethodTree tree, List<Call> outer) {
            List<Call> made = new ArrayList<>();
            calls.put((ExecutableElement) trees.getElement(getCurrentPath()), made);
            return super.visitMethod(tree, made);
        }

        @Override
        public Void visitMethodInvocation(MethodInvocationTree tree, List<Call> made) {
            ExpressionTree select = tree.getMethodSelect();
            note(trees.getElement(new TreePath(getCurrentPath(), select)), isOfSuper(select), made);
            return super.visitMethodInvocation(tree, made);
        }

        @Override
        public Void visitNewClass(NewClassTree tree, List<Call> made) {
            note(trees.getElement(getCurrentPath()), true, made);
            return super.visitNewClass(tree, made);
        }

        private boolean isOfSuper(ExpressionTree select) {
            return select instanceof MemberSelectTree member && member.getExpression() instanceof IdentifierTree name
                && name.getName().contentEquals("super");
        }

        private void note(Element called, boolean isOfSuper, List<Call> made) {
            if (called instanceof ExecutableElement method) {
                boolean isExact = isOfSuper || method.getKind() == ElementKind.CONSTRUCTOR
                    || method.getModifiers().contains(Modifier.STATIC);
                made.add(new Call(method, isExact));
            }
        }
    }
}
