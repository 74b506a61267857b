import com.sun.source.tree.ClassTree;
import com.sun.source.tree.CompilationUnitTree;
import com.sun.source.tree.LambdaExpressionTree;
import com.sun.source.tree.MemberReferenceTree;
import com.sun.source.tree.MethodInvocationTree;
import com.sun.source.tree.MethodTree;
import com.sun.source.tree.NewArrayTree;
import com.sun.source.tree.NewClassTree;
import com.sun.source.tree.ThrowTree;
import com.sun.source.tree.TryTree;
import com.sun.source.tree.VariableTree;
import com.sun.source.util.JavacTask;
import com.sun.source.util.TreePathScanner;
import com.sun.source.util.Trees;
import java.io.File;
import java.util.ArrayDeque;
import java.util.HashMap;
import java.util.HashSet;
import java.util.LinkedHashMap;
import java.util.List;
import java.util.Map;
import java.util.Set;
import java.util.TreeSet;
import javax.lang.model.element.Element;
import javax.lang.model.element.ElementKind;
import javax.lang.model.element.Modifier;
import javax.tools.JavaCompiler;
import javax.tools.StandardJavaFileManager;
import javax.tools.ToolProvider;

/** Rules of LANGUAGE.md that are seen only by who knows which method calls which: the compiler tells it. */
public final class RuleTest {
    private static final int DEEPEST = 8;
    private static final int MOST_OPEN = 300;
    // a one behind not, or a unit in brackets, within 6 others at most, and the formula itself
    private static final int MOST_LEVELS = 8;
    private static final Set<String> LIBRARY = Set.of("String.length", "String.charAt", "String.indexOf",
            "System.arraycopy", "Arrays.fill", "Integer.bitCount", "Integer.numberOfTrailingZeros", "Math.max",
            "Math.min", "Math.abs", "Math.floorMod", "Object.<init>");
    private static final Set<String> WRONG = new TreeSet<>();

    private RuleTest() {
    }

    private static void check(boolean right, String what) {
        if (!right) {
            WRONG.add(what);
        }
    }

    public static void main(String[] args) throws Exception {
        JavaCompiler compiler = ToolProvider.getSystemJavaCompiler();
        try (StandardJavaFileManager files = compiler.getStandardFileManager(null, null, null)) {
            JavacTask task = (JavacTask) compiler.getTask(null, files, null, List.of("-proc:none"), null,
                    files.getJavaFileObjects(new File("src/main/java/PinPlan.java")));
            Iterable<? extends CompilationUnitTree> units = task.parse();
            task.analyze();
            Reader reader = new Reader(Trees.instance(task));
            for (CompilationUnitTree unit : units) {
                reader.scan(unit, null);
            }
            callDepth(reader.calls);
        }
        for (String wrong : WRONG) {
            System.out.println(wrong);
        }
        System.out.println(WRONG.isEmpty() ? "the rules are kept" : WRONG.size() + " rules are not kept");
        if (!WRONG.isEmpty()) {
            System.exit(1);
        }
    }

    /** Gathers who calls whom, and looks at each tree that a rule speaks of. */
    private static final class Reader extends TreePathScanner<Void, Void> {
        final Map<String, Set<String>> calls = new LinkedHashMap<>();
        private final Trees trees;
        private String method = "none";

        Reader(Trees trees) {
            this.trees = trees;
        }

        private static String nameOf(Element e) {
            return e.getEnclosingElement().getSimpleName() + "." + e.getSimpleName();
        }

        private static boolean isOurs(Element e) {
            Element top = e;
            while (top.getEnclosingElement().getKind() != ElementKind.PACKAGE) {
                top = top.getEnclosingElement();
            }
            return top.getSimpleName().contentEquals("PinPlan");
        }

        private void calls(Element callee) {
            if (isOurs(callee)) {
                calls.get(method).add(nameOf(callee));
            } else {
                check(LIBRARY.contains(nameOf(callee)), "rule 4: " + method + " calls " + nameOf(callee));
            }
        }

        @Override
        public Void visitMethod(MethodTree tree, Void none) {
            method = nameOf(trees.getElement(getCurrentPath()));
            check(!calls.containsKey(method), "two methods of one name, which this test does not tell apart: " + method);
            calls.put(method, new TreeSet<>());
            check(tree.getParameters().size() <= 7, "rule 11: parameters of " + method);
            super.visitMethod(tree, none);
            method = "none";
            return null;
        }

        @Override
        public Void visitMethodInvocation(MethodInvocationTree tree, Void none) {
            calls(trees.getElement(getCurrentPath()));
            return super.visitMethodInvocation(tree, none);
        }

        @Override
        public Void visitNewClass(NewClassTree tree, Void none) {
            check(tree.getClassBody() == null, "rule 2: " + method + " has a class without a name");
            isMadeAtFirst();
            calls(trees.getElement(getCurrentPath()));
            return super.visitNewClass(tree, none);
        }

        @Override
        public Void visitNewArray(NewArrayTree tree, Void none) {
            isMadeAtFirst();
            return super.visitNewArray(tree, none);
        }

        private void isMadeAtFirst() {
            check(method.endsWith(".<init>"), "rule 12: " + method + " makes an object, though all can be made at first");
        }

        @Override
        public Void visitVariable(VariableTree tree, Void none) {
            Element e = trees.getElement(getCurrentPath());
            boolean constant = e.getModifiers().contains(Modifier.STATIC);
            check(!constant || e.getModifiers().contains(Modifier.FINAL), "rule 5: " + nameOf(e));
            return super.visitVariable(tree, none);
        }

        @Override
        public Void visitClass(ClassTree tree, Void none) {
            Element e = trees.getElement(getCurrentPath());
            boolean outer = e.getEnclosingElement().getKind() == ElementKind.PACKAGE;
            boolean inside = e.getEnclosingElement().getKind() == ElementKind.CLASS
                    && e.getModifiers().contains(Modifier.STATIC) && e.getModifiers().contains(Modifier.PRIVATE);
            check(outer || inside, "rule 2: " + e.getSimpleName());
            check(e.getModifiers().contains(Modifier.FINAL), "rule 12: " + e.getSimpleName() + " could be inherited");
            return super.visitClass(tree, none);
        }

        @Override
        public Void visitThrow(ThrowTree tree, Void none) {
            check(false, "rule 6: " + method + " throws");
            return super.visitThrow(tree, none);
        }

        @Override
        public Void visitTry(TryTree tree, Void none) {
            check(false, "rule 6: " + method + " tries");
            return super.visitTry(tree, none);
        }

        @Override
        public Void visitLambdaExpression(LambdaExpressionTree tree, Void none) {
            check(false, "rule 2: " + method + " has a lambda");
            return super.visitLambdaExpression(tree, none);
        }

        @Override
        public Void visitMemberReference(MemberReferenceTree tree, Void none) {
            check(false, "rule 2: " + method + " has a method reference");
            return super.visitMemberReference(tree, none);
        }
    }

    private static Set<String> reachedFrom(String method, Map<String, Set<String>> calls) {
        Set<String> seen = new HashSet<>();
        ArrayDeque<String> todo = new ArrayDeque<>(calls.get(method));
        while (!todo.isEmpty()) {
            String next = todo.pop();
            if (seen.add(next)) {
                todo.addAll(calls.getOrDefault(next, Set.of()));
            }
        }
        return seen;
    }

    /** Methods that call one another stand for one call, and each level of the formula goes through all of them. */
    private static void callDepth(Map<String, Set<String>> calls) {
        Map<String, Set<String>> reached = new HashMap<>();
        for (String m : calls.keySet()) {
            reached.put(m, reachedFrom(m, calls));
        }
        Map<String, String> heads = new HashMap<>();
        int recursive = 0;
        for (String m : calls.keySet()) {
            boolean again = reached.get(m).contains(m);
            check(!again || m.startsWith("Reader.read"), "rule 8: " + m + " calls itself, which nothing bounds");
            recursive += again ? 1 : 0;
            String head = m;
            for (String o : reached.get(m)) {
                if (again && reached.get(o).contains(m) && o.compareTo(head) < 0) {
                    head = o;
                }
            }
            heads.put(m, head);
        }
        Map<String, Set<String>> folded = new LinkedHashMap<>();
        for (String m : calls.keySet()) {
            Set<String> into = folded.computeIfAbsent(heads.get(m), k -> new TreeSet<>());
            for (String o : calls.get(m)) {
                if (!heads.get(o).equals(heads.get(m))) {
                    into.add(heads.get(o));
                }
            }
        }
        Map<String, Integer> depths = new HashMap<>();
        for (String m : folded.keySet()) {
            check(depth(m, folded, depths) <= DEEPEST, "rule 11: calls from " + m + " go " + depths.get(m) + " deep");
        }
        check(DEEPEST + recursive * MOST_LEVELS < MOST_OPEN, "rule 8: " + recursive + " methods that call one another");
    }

    private static int depth(String method, Map<String, Set<String>> calls, Map<String, Integer> known) {
        Integer before = known.get(method);
        if (before != null) {
            return before;
        }
        int deepest = 0;
        for (String o : calls.get(method)) {
            deepest = Math.max(deepest, depth(o, calls, known));
        }
        known.put(method, deepest + 1);
        return deepest + 1;
    }
}
