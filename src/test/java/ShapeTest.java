import com.sun.source.tree.ClassTree;
import com.sun.source.tree.CompilationUnitTree;
import com.sun.source.tree.LineMap;
import com.sun.source.tree.MethodInvocationTree;
import com.sun.source.tree.MethodTree;
import com.sun.source.tree.NewClassTree;
import com.sun.source.tree.VariableTree;
import com.sun.source.util.JavacTask;
import com.sun.source.util.SourcePositions;
import com.sun.source.util.TreePath;
import com.sun.source.util.TreePathScanner;
import com.sun.source.util.Trees;
import java.io.File;
import java.io.IOException;
import java.util.ArrayDeque;
import java.util.Deque;
import java.util.List;
import java.util.Map;
import java.util.Set;
import java.util.TreeMap;
import java.util.TreeSet;
import javax.lang.model.element.Element;
import javax.lang.model.element.ElementKind;
import javax.lang.model.element.Modifier;
import javax.tools.JavaCompiler;
import javax.tools.StandardJavaFileManager;
import javax.tools.ToolProvider;

/** What of LANGUAGE.md goes by the parts of the program and by which calls which; run from the project's own folder. */
public final class ShapeTest {
    private static final File SOURCE = new File("src/main/java/EscapadeHouse.java");

    private static final int MOST_LINES = 60;
    private static final int MOST_PARAMETERS = 7;
    private static final int MOST_CLASSES = 12;
    private static final int MOST_FIELDS = 20;
    private static final int MOST_DEEP = 8;

    /** The depth of these is told by an argument, which they guard. */
    private static final Set<String> RECURSIVE = Set.of("Trial.leadsToEnd", "Trial.leadsByAnAct");

    private static final Set<String> LIBRARY_CALLS =
            Set.of("ArrayList.add", "ArrayList.get", "ArrayList.size", "Arrays.fill", "Integer.bitCount");

    private static final Set<String> LIBRARY_OBJECTS = Set.of("ArrayList", "IllegalStateException",
            "IllegalArgumentException", "IndexOutOfBoundsException", "ArithmeticException",
            "UnsupportedOperationException", "NoSuchElementException");

    private static final Check check = new Check();

    private final Map<String, Set<String>> callsOf = new TreeMap<>();
    private final Map<String, Integer> fieldsOf = new TreeMap<>();
    private final Set<String> libraryCalls = new TreeSet<>();
    private final Set<String> libraryObjects = new TreeSet<>();
    private final Deque<String> open = new ArrayDeque<>();
    private String deepest = "";
    private int depth = 0;

    public static void main(String[] args) throws IOException {
        ShapeTest shape = new ShapeTest();
        shape.read();
        check.due("rule 4: library calls", LIBRARY_CALLS, () -> shape.libraryCalls);
        check.due("rules 4 and 6: library objects", LIBRARY_OBJECTS, () -> shape.libraryObjects);
        check.due("rule 8: methods that call themselves", RECURSIVE, shape::recursiveMethods);
        check.due("rule 11: at most some twelve classes", true, () -> shape.fieldsOf.size() <= MOST_CLASSES);
        shape.fieldsOf.forEach((name, fields) ->
                check.due("rule 11: fields of " + name, true, () -> fields <= MOST_FIELDS));
        for (String method : shape.callsOf.keySet()) {
            shape.goDeeper(method);
        }
        check.due("rule 11: the deepest calls, " + shape.deepest, true, () -> shape.depth <= MOST_DEEP);
        check.end();
    }

    private void read() throws IOException {
        JavaCompiler compiler = ToolProvider.getSystemJavaCompiler();
        try (StandardJavaFileManager files = compiler.getStandardFileManager(null, null, null)) {
            JavacTask task = (JavacTask) compiler.getTask(
                    null, files, null, List.of("-proc:none"), null, files.getJavaFileObjects(SOURCE));
            Iterable<? extends CompilationUnitTree> units = task.parse();
            task.analyze();
            Trees trees = Trees.instance(task);
            for (CompilationUnitTree unit : units) {
                new Reader(trees, unit).scan(unit, null);
            }
        }
    }

    private final class Reader extends TreePathScanner<Void, Void> {
        private final Trees trees;
        private final CompilationUnitTree unit;
        private String method = "";

        Reader(Trees trees, CompilationUnitTree unit) {
            this.trees = trees;
            this.unit = unit;
        }

        @Override
        public Void visitClass(ClassTree tree, Void nothing) {
            fieldsOf.put(tree.getSimpleName().toString(), 0);
            return super.visitClass(tree, nothing);
        }

        @Override
        public Void visitVariable(VariableTree tree, Void nothing) {
            Element element = elementHere();
            if (element.getKind() == ElementKind.FIELD && !element.getModifiers().contains(Modifier.STATIC)) {
                fieldsOf.merge(element.getEnclosingElement().getSimpleName().toString(), 1, Integer::sum);
            }
            return super.visitVariable(tree, nothing);
        }

        @Override
        public Void visitMethod(MethodTree tree, Void nothing) {
            method = nameOf(elementHere());
            callsOf.put(method, new TreeSet<>());
            check.due("rule 11: lines of " + method, true, () -> linesOf(tree) <= MOST_LINES);
            check.due("rule 11: parameters of " + method, true, () -> tree.getParameters().size() <= MOST_PARAMETERS);
            super.visitMethod(tree, nothing);
            method = "";
            return null;
        }

        @Override
        public Void visitMethodInvocation(MethodInvocationTree tree, Void nothing) {
            called(trees.getElement(new TreePath(getCurrentPath(), tree.getMethodSelect())), libraryCalls);
            return super.visitMethodInvocation(tree, nothing);
        }

        @Override
        public Void visitNewClass(NewClassTree tree, Void nothing) {
            called(elementHere(), libraryObjects);
            return super.visitNewClass(tree, nothing);
        }

        private void called(Element element, Set<String> library) {
            boolean isOwn = trees.getPath(element) != null || trees.getPath(element.getEnclosingElement()) != null;
            if (element.getSimpleName().contentEquals("<init>")) {
                if (!isOwn) {
                    noteLibrary(element.getEnclosingElement().getSimpleName().toString(), library);
                }
            } else if (isOwn && !method.isEmpty()) {
                callsOf.get(method).add(nameOf(element));
            } else if (!isOwn) {
                noteLibrary(nameOf(element), library);
            }
        }

        /** The compiler writes a call of the class above into each constructor. */
        private void noteLibrary(String name, Set<String> library) {
            if (!name.equals("Object") && !name.equals("Record")) {
                library.add(name);
            }
        }

        private long linesOf(MethodTree tree) {
            SourcePositions positions = trees.getSourcePositions();
            LineMap lines = unit.getLineMap();
            return lines.getLineNumber(positions.getEndPosition(unit, tree))
                    - lines.getLineNumber(positions.getStartPosition(unit, tree)) + 1;
        }

        private Element elementHere() {
            return trees.getElement(getCurrentPath());
        }
    }

    private static String nameOf(Element method) {
        return method.getEnclosingElement().getSimpleName() + "." + method.getSimpleName();
    }

    /** All ways down from a method, each method at most once on a way. */
    private void goDeeper(String method) {
        if (open.contains(method)) {
            return;
        }
        open.addLast(method);
        if (open.size() > depth) {
            depth = open.size();
            deepest = String.join(" > ", open);
        }
        for (String next : callsOf.getOrDefault(method, Set.of())) {
            goDeeper(next);
        }
        open.removeLast();
    }

    private Set<String> recursiveMethods() {
        Set<String> recursive = new TreeSet<>();
        for (String method : callsOf.keySet()) {
            Set<String> below = new TreeSet<>();
            Deque<String> rest = new ArrayDeque<>(callsOf.get(method));
            while (!rest.isEmpty()) {
                String next = rest.removeLast();
                if (below.add(next)) {
                    rest.addAll(callsOf.getOrDefault(next, Set.of()));
                }
            }
            if (below.contains(method)) {
                recursive.add(method);
            }
        }
        return recursive;
    }
}
