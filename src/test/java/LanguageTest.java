import com.sun.source.tree.BinaryTree;
import com.sun.source.tree.BlockTree;
import com.sun.source.tree.ClassTree;
import com.sun.source.tree.CompilationUnitTree;
import com.sun.source.tree.MethodInvocationTree;
import com.sun.source.tree.MethodTree;
import com.sun.source.tree.NewClassTree;
import com.sun.source.tree.Tree;
import com.sun.source.tree.VariableTree;
import com.sun.source.util.JavacTask;
import com.sun.source.util.SourcePositions;
import com.sun.source.util.TreePath;
import com.sun.source.util.TreePathScanner;
import com.sun.source.util.Trees;
import java.io.File;
import java.util.ArrayList;
import java.util.HashMap;
import java.util.HashSet;
import java.util.LinkedHashMap;
import java.util.List;
import java.util.Map;
import java.util.Set;
import javax.lang.model.element.Element;
import javax.lang.model.element.ExecutableElement;
import javax.lang.model.element.Modifier;
import javax.tools.JavaCompiler;
import javax.tools.JavaFileObject;
import javax.tools.StandardJavaFileManager;
import javax.tools.ToolProvider;

/** The rules of LANGUAGE.md that can be seen in the source. */
public final class LanguageTest {
    private static final Set<String> FACE = Set.of("NONE", "feed", "load", "place", "warning", "begin", "run", "go",
        "none", "wait", "put", "alive", "instance", "cell", "timer", "queued", "way", "out", "event", "count", "type",
        "search", "state", "first", "visit", "chart", "choices");
    private static final Set<String> LIBRARY = Set.of("java.util.Arrays.fill", "java.util.Arrays.copyOf",
        "java.lang.System.arraycopy", "java.lang.Math.max", "java.lang.Math.min", "java.lang.String.length",
        "java.lang.String.charAt", "java.lang.Object.<init>");
    private static final Set<Tree.Kind> RULED_OUT = Set.of(Tree.Kind.THROW, Tree.Kind.TRY, Tree.Kind.CATCH,
        Tree.Kind.SYNCHRONIZED, Tree.Kind.ASSERT, Tree.Kind.LAMBDA_EXPRESSION, Tree.Kind.MEMBER_REFERENCE);

    private static final int METHOD_LINES = 60;
    private static final int PARAMETERS = 7;
    private static final int FIELDS = 20;
    private static final int CLASSES = 12;
    private static final int CALLS = 8;

    private static Trees trees;
    private static SourcePositions positions;
    private static CompilationUnitTree unit;
    private static final Map<String, Set<String>> calls = new LinkedHashMap<>();
    private static final Set<String> publicMethods = new HashSet<>();
    private static int classes;

    public static void main(String[] args) throws Exception {
        File source = new File(args.length > 0 ? args[0] : ".", "src/main/java/ExchangeHouse.java");
        JavaCompiler compiler = ToolProvider.getSystemJavaCompiler();
        StandardJavaFileManager files = compiler.getStandardFileManager(null, null, null);
        Iterable<? extends JavaFileObject> units = files.getJavaFileObjects(source);
        JavacTask task = (JavacTask) compiler.getTask(null, files, null, List.of("-proc:none"), null, units);
        unit = task.parse().iterator().next();
        task.analyze();
        trees = Trees.instance(task);
        positions = trees.getSourcePositions();
        new Reader().scan(unit, null);
        Desk.due("classes beyond twelve", Math.max(0, classes - CLASSES), 0);
        deepest();
        Desk.close("LanguageTest");
    }

    private static void rule(String what, boolean kept) {
        Desk.due(what, kept, true);
    }

    private static long lines(Tree tree) {
        long from = unit.getLineMap().getLineNumber(positions.getStartPosition(unit, tree));
        return unit.getLineMap().getLineNumber(positions.getEndPosition(unit, tree)) - from + 1;
    }

    private static final class Reader extends TreePathScanner<Void, Void> {
        private String method = "";

        @Override
        public Void scan(Tree tree, Void none) {
            if (tree != null) {
                rule("rule 2, 6: " + tree.getKind(), !RULED_OUT.contains(tree.getKind()));
            }
            return super.scan(tree, none);
        }

        @Override
        public Void visitClass(ClassTree tree, Void none) {
            classes++;
            String name = tree.getSimpleName().toString();
            boolean outer = name.equals("ExchangeHouse");
            Set<Modifier> flags = tree.getModifiers().getFlags();
            rule("rule 1: " + name, outer ? flags.contains(Modifier.PUBLIC) && flags.contains(Modifier.FINAL)
                : flags.contains(Modifier.STATIC) && flags.contains(Modifier.PRIVATE));
            int fields = 0;
            for (Tree member : tree.getMembers()) {
                if (member instanceof VariableTree) {
                    VariableTree field = (VariableTree) member;
                    Set<Modifier> its = field.getModifiers().getFlags();
                    fields += its.contains(Modifier.STATIC) ? 0 : 1;
                    rule("rule 5: " + field.getName(), !its.contains(Modifier.STATIC) || its.contains(Modifier.FINAL));
                    rule("rule 1: " + field.getName(), !outer || face(field.getName().toString(), its));
                } else if (member instanceof MethodTree) {
                    MethodTree its = (MethodTree) member;
                    String itsName = its.getName().toString();
                    if (!itsName.equals("<init>")) {
                        rule("rule 1: " + itsName, face(itsName, its.getModifiers().getFlags()) || !outer);
                        rule("rule 1: " + name + "." + itsName + " bears a public name", outer || !FACE.contains(itsName));
                    }
                } else if (member instanceof BlockTree) {
                    rule("rule 5: no initialiser block", false);
                }
            }
            rule("rule 11: fields of " + name + ", " + fields, fields <= FIELDS);
            return super.visitClass(tree, none);
        }

        private boolean face(String name, Set<Modifier> flags) {
            return flags.contains(Modifier.PUBLIC) ? FACE.contains(name) : flags.contains(Modifier.PRIVATE);
        }

        @Override
        public Void visitMethod(MethodTree tree, Void none) {
            String before = method;
            Element element = trees.getElement(getCurrentPath());
            method = id(element);
            calls.put(method, new HashSet<>());
            if (element.getModifiers().contains(Modifier.PUBLIC)) {
                publicMethods.add(method);
            }
            rule("rule 11: lines of " + method + ", " + lines(tree), lines(tree) <= METHOD_LINES);
            rule("rule 11: parameters of " + method, tree.getParameters().size() <= PARAMETERS);
            super.visitMethod(tree, none);
            method = before;
            return null;
        }

        @Override
        public Void visitMethodInvocation(MethodInvocationTree tree, Void none) {
            call(trees.getElement(getCurrentPath()));
            return super.visitMethodInvocation(tree, none);
        }

        @Override
        public Void visitNewClass(NewClassTree tree, Void none) {
            rule("rule 2: no anonymous class", tree.getClassBody() == null);
            call(trees.getElement(getCurrentPath()));
            return super.visitNewClass(tree, none);
        }

        private void call(Element callee) {
            if (!(callee instanceof ExecutableElement)) {
                return;
            }
            String name = id(callee);
            if (name.startsWith("ExchangeHouse")) {
                if (!method.isEmpty()) {
                    calls.get(method).add(name);
                }
            } else {
                rule("rule 4: " + name, LIBRARY.contains(name));
            }
        }

        @Override
        public Void visitBinary(BinaryTree tree, Void none) {
            TreePath path = getCurrentPath();
            boolean text = String.valueOf(trees.getTypeMirror(path)).equals("java.lang.String");
            rule("rule 10: no texts joined by +", !text);
            return super.visitBinary(tree, none);
        }

        private static String id(Element element) {
            return element.getEnclosingElement() + "." + element.getSimpleName();
        }
    }

    /** How deep calls go, those that call one another counting once. */
    private static void deepest() {
        Map<String, Set<String>> reach = new HashMap<>();
        for (String method : calls.keySet()) {
            Set<String> seen = new HashSet<>();
            List<String> open = new ArrayList<>(calls.get(method));
            while (!open.isEmpty()) {
                String next = open.remove(open.size() - 1);
                if (seen.add(next)) {
                    open.addAll(calls.getOrDefault(next, Set.of()));
                }
            }
            reach.put(method, seen);
        }
        Map<String, List<String>> longest = new HashMap<>();
        for (String method : publicMethods) {
            List<String> path = longest(method, reach, longest, 0);
            rule("rule 11: calls of " + path, path.size() <= CALLS);
        }
    }

    private static List<String> longest(String method, Map<String, Set<String>> reach,
            Map<String, List<String>> known, int depth) {
        if (known.containsKey(method)) {
            return known.get(method);
        }
        Set<String> ring = new HashSet<>();
        ring.add(method);
        for (String other : reach.getOrDefault(method, Set.of())) {
            if (reach.getOrDefault(other, Set.of()).contains(method)) {
                ring.add(other);
            }
        }
        List<String> best = new ArrayList<>();
        for (String member : ring) {
            for (String next : calls.getOrDefault(member, Set.of())) {
                if (!ring.contains(next) && depth < 100) {
                    List<String> path = longest(next, reach, known, depth + 1);
                    best = path.size() > best.size() ? path : best;
                }
            }
        }
        List<String> path = new ArrayList<>();
        path.add(ring.size() > 1 ? ring.toString() : method);
        path.addAll(best);
        for (String member : ring) {
            known.put(member, path);
        }
        return path;
    }
}
