import com.sun.source.tree.ClassTree;
import com.sun.source.tree.CompilationUnitTree;
import com.sun.source.tree.MethodInvocationTree;
import com.sun.source.tree.MethodTree;
import com.sun.source.tree.NewArrayTree;
import com.sun.source.tree.NewClassTree;
import com.sun.source.tree.Tree;
import com.sun.source.tree.VariableTree;
import com.sun.source.util.JavacTask;
import com.sun.source.util.TreePathScanner;
import com.sun.source.util.Trees;
import java.io.IOException;
import java.nio.file.Path;
import java.util.ArrayDeque;
import java.util.Deque;
import java.util.List;
import java.util.Map;
import java.util.Set;
import java.util.TreeMap;
import java.util.TreeSet;
import javax.lang.model.element.Element;
import javax.lang.model.element.Modifier;
import javax.tools.JavaCompiler;
import javax.tools.StandardJavaFileManager;
import javax.tools.ToolProvider;

/**
 * ../shared/LANGUAGE.md, as far as who calls whom shows it: rules 4, 8, 11 and 12. The compiler itself tells which method
 * a call means, so that methods of one name in two classes are told apart.
 */
public final class CallsTest extends TreePathScanner<Void, Void> {
    private static final String SOURCE = "src/main/java/HeelsIn.java", ITSELF = "HeelsIn.Choice.tryBelow";
    private static final Set<String> LIBRARY = Set.of("java.lang.Math.min", "java.lang.Math.max", "java.lang.Math.abs",
        "java.lang.Integer.compare", "java.lang.Integer.bitCount", "java.lang.String.length", "java.lang.String.charAt",
        "java.lang.System.arraycopy");
    private static final int DEEPEST = 8;

    private final Trees trees;
    private final Map<String, Set<String>> calls = new TreeMap<>();
    private final Map<String, Integer> deep = new TreeMap<>();
    private final Deque<String> inside = new ArrayDeque<>();

    private CallsTest(Trees trees) {
        this.trees = trees;
    }

    public static void main(String[] args) throws IOException {
        JavaCompiler compiler = ToolProvider.getSystemJavaCompiler();
        try (StandardJavaFileManager files = compiler.getStandardFileManager(null, null, null)) {
            JavacTask task = (JavacTask) compiler.getTask(null, files, null, List.of("-proc:none"), null,
                files.getJavaFileObjects(Path.of(SOURCE)));
            Iterable<? extends CompilationUnitTree> units = task.parse();
            task.analyze();
            CallsTest test = new CallsTest(Trees.instance(task));
            for (CompilationUnitTree unit : units) {
                test.scan(unit, null);
            }
            test.judge();
        }
        Due.end("CallsTest");
    }

    private void judge() {
        Due.is("methods were found", calls.size() > 100 ? 1 : 0, 1);
        for (String method : calls.keySet()) {
            int depth = depthOf(method, new TreeSet<>());
            Due.is("11 calls of " + method + " go " + depth + " deep", depth <= DEEPEST ? 1 : 0, 1);
        }
        Due.is("11 the deepest was looked at", depthOf("HeelsIn.three", new TreeSet<>()) >= 6 ? 1 : 0, 1);
    }

    /** Those of the library count, too; a call that comes back to a method that stands open is refused. */
    private int depthOf(String method, Set<String> open) {
        if (deep.containsKey(method)) {
            return deep.get(method);
        }
        int most = 0;
        open.add(method);
        for (String callee : calls.getOrDefault(method, Set.of())) {
            boolean again = open.contains(callee);
            Due.is("8 " + method + " comes back to " + callee, again && !callee.equals(ITSELF) ? 1 : 0, 0);
            if (!again) {
                most = Math.max(most, depthOf(callee, open));
            }
        }
        open.remove(method);
        deep.put(method, most + 1);
        return most + 1;
    }

    @Override
    public Void visitClass(ClassTree node, Void nothing) {
        Element type = trees.getElement(getCurrentPath());
        if (type.getEnclosingElement().getKind().isClass()) {
            Due.is("2 " + type + " is static", type.getModifiers().contains(Modifier.STATIC) ? 1 : 0, 1);
        }
        return super.visitClass(node, nothing);
    }

    @Override
    public Void visitMethod(MethodTree node, Void nothing) {
        Element method = trees.getElement(getCurrentPath());
        String name = nameOf(method);
        calls.computeIfAbsent(name, k -> new TreeSet<>());
        boolean ofTheFace = method.getEnclosingElement().toString().equals("HeelsIn") && method.getModifiers().contains(Modifier.PUBLIC);
        boolean unseen = method.getModifiers().contains(Modifier.PRIVATE) || name.endsWith(".<init>");
        Due.is("1 " + name + " is of the face, or private", ofTheFace || unseen ? 1 : 0, 1);
        if (name.equals(ITSELF)) {
            Due.is("8 " + name + " is static, private", method.getModifiers().containsAll(Set.of(Modifier.PRIVATE, Modifier.STATIC)) ? 1 : 0, 1);
        }
        inside.push(name);
        super.visitMethod(node, nothing);
        inside.pop();
        return null;
    }

    @Override
    public Void visitVariable(VariableTree node, Void nothing) {
        Element variable = trees.getElement(getCurrentPath());
        if (variable.getKind().isField()) {
            Due.is("1 " + variable + " is private", variable.getModifiers().contains(Modifier.PRIVATE)
                || Set.of("NONE", "BAD", "STATE", "FULL").contains(variable.toString()) ? 1 : 0, 1);
        }
        return super.visitVariable(node, nothing);
    }

    @Override
    public Void visitMethodInvocation(MethodInvocationTree node, Void nothing) {
        String callee = nameOf(trees.getElement(getCurrentPath()));
        if (!inside.isEmpty()) {
            calls.get(inside.peek()).add(callee);
        }
        boolean ofLibrary = !callee.startsWith("HeelsIn.");
        Due.is("4 " + callee, !ofLibrary || LIBRARY.contains(callee) || callee.equals("java.lang.Object.<init>") ? 1 : 0, 1);
        return super.visitMethodInvocation(node, nothing);
    }

    @Override
    public Void visitNewClass(NewClassTree node, Void nothing) {
        made(node);
        return super.visitNewClass(node, nothing);
    }

    @Override
    public Void visitNewArray(NewArrayTree node, Void nothing) {
        made(node);
        return super.visitNewArray(node, nothing);
    }

    /** Rule 12, as the class keeps it: all rows are made as the object is, none by a call. */
    private void made(Tree node) {
        boolean asTheObjectIs = inside.isEmpty() || inside.peek().endsWith(".<init>");
        Due.is("12 " + node + " is made ahead of all calls", asTheObjectIs ? 1 : 0, 1);
    }

    private static String nameOf(Element method) {
        return method.getEnclosingElement() + "." + method.getSimpleName();
    }
}
