import com.sun.source.tree.CompilationUnitTree;
import com.sun.source.tree.MemberSelectTree;
import com.sun.source.tree.MethodInvocationTree;
import com.sun.source.tree.MethodTree;
import com.sun.source.tree.NewClassTree;
import com.sun.source.tree.Tree;
import com.sun.source.util.JavacTask;
import com.sun.source.util.TreePath;
import com.sun.source.util.TreePathScanner;
import com.sun.source.util.Trees;
import java.io.IOException;
import java.nio.file.Path;
import java.util.HashMap;
import java.util.HashSet;
import java.util.LinkedHashSet;
import java.util.List;
import java.util.Map;
import java.util.Set;
import javax.lang.model.element.Element;
import javax.lang.model.element.ElementKind;
import javax.lang.model.element.ExecutableElement;
import javax.lang.model.element.Modifier;
import javax.lang.model.element.TypeElement;
import javax.lang.model.util.Elements;
import javax.tools.JavaCompiler;
import javax.tools.StandardJavaFileManager;
import javax.tools.ToolProvider;

/** Who calls whom in the class, by LANGUAGE.md's rules 4 (the library), 8 (recursion) and 11 (depth, length). */
public final class CallsTest {
    private static final Set<String> LIBRARY = Set.of(
        "java.lang.Object.<init>", "java.lang.Math.min", "java.lang.Math.max", "java.lang.Integer.bitCount",
        "java.lang.System.arraycopy", "java.util.Arrays.fill");
    private static final int DEEPEST = 8, LONGEST = 60;

    private static int wrong = 0;

    private static void hold(boolean so, String what) {
        if (so) return;
        wrong++;
        System.out.println("not so: " + what);
    }

    /** Of each method (of each class, for what its fields begin with) those that it calls. */
    private final Map<Element, Set<Element>> calls = new HashMap<>();
    private final Set<ExecutableElement> methods = new LinkedHashSet<>();
    private Elements elements;

    private final class Reader extends TreePathScanner<Void, Void> {
        private final Trees trees;

        Reader(Trees trees) {
            this.trees = trees;
        }

        @Override
        public Void visitMethod(MethodTree tree, Void nothing) {
            methods.add((ExecutableElement) trees.getElement(getCurrentPath()));
            CompilationUnitTree unit = getCurrentPath().getCompilationUnit();
            long begins = unit.getLineMap().getLineNumber(trees.getSourcePositions().getStartPosition(unit, tree));
            long end = trees.getSourcePositions().getEndPosition(unit, tree);
            long lines = end < 0 ? 0 : unit.getLineMap().getLineNumber(end) - begins + 1;
            hold(lines <= LONGEST, tree.getName() + " is short: " + lines + " lines");
            return super.visitMethod(tree, nothing);
        }

        @Override
        public Void visitMethodInvocation(MethodInvocationTree tree, Void nothing) {
            note(caller(), (ExecutableElement) trees.getElement(getCurrentPath()), isBySuper(tree));
            return super.visitMethodInvocation(tree, nothing);
        }

        @Override
        public Void visitNewClass(NewClassTree tree, Void nothing) {
            ExecutableElement made = (ExecutableElement) trees.getElement(getCurrentPath());
            note(caller(), made, true);
            calls.computeIfAbsent(made, any -> new LinkedHashSet<>()).add(made.getEnclosingElement());
            return super.visitNewClass(tree, nothing);
        }

        private Element caller() {
            for (TreePath path = getCurrentPath(); path != null; path = path.getParentPath()) {
                Tree.Kind kind = path.getLeaf().getKind();
                if (kind == Tree.Kind.METHOD || kind == Tree.Kind.CLASS) return trees.getElement(path);
            }
            throw new IllegalStateException("a call outside the class");
        }

        private boolean isBySuper(MethodInvocationTree tree) {
            return tree.getMethodSelect() instanceof MemberSelectTree
                && ((MemberSelectTree) tree.getMethodSelect()).getExpression().toString().equals("super");
        }
    }

    private void note(Element caller, ExecutableElement called, boolean isThatOne) {
        Set<Element> those = calls.computeIfAbsent(caller, any -> new LinkedHashSet<>());
        those.add(called);
        if (isThatOne) return;
        for (ExecutableElement other : methods) {
            if (elements.overrides(other, called, (TypeElement) other.getEnclosingElement())) those.add(other);
        }
    }

    private static boolean isOwn(Element element) {
        for (Element outer = element; outer != null; outer = outer.getEnclosingElement()) {
            if (outer.getSimpleName().contentEquals("CorpseTales")) return true;
        }
        return false;
    }

    private Set<Element> calledBy(Element caller) {
        Set<Element> own = new LinkedHashSet<>();
        for (Element called : calls.getOrDefault(caller, Set.of())) if (isOwn(called)) own.add(called);
        return own;
    }

    private void read(Path source) throws IOException {
        JavaCompiler compiler = ToolProvider.getSystemJavaCompiler();
        try (StandardJavaFileManager files = compiler.getStandardFileManager(null, null, null)) {
            JavacTask task = (JavacTask) compiler.getTask(null, files, null, List.of("-proc:none"), null, files.getJavaFileObjects(source));
            Iterable<? extends CompilationUnitTree> units = task.parse();
            task.analyze();
            elements = task.getElements();
            // Read twice: a method that overrides another may stand behind the call of that one.
            for (int time = 0; time < 2; time++) {
                for (CompilationUnitTree unit : units) new Reader(Trees.instance(task)).scan(unit, null);
            }
        }
    }

    private void library() {
        for (Set<Element> called : calls.values()) {
            for (Element one : called) {
                String name = one.getEnclosingElement() + "." + one.getSimpleName();
                hold(isOwn(one) || LIBRARY.contains(name), "the library has " + name);
            }
        }
    }

    private boolean leadsTo(Element from, Element to, Set<Element> seen) {
        for (Element called : calledBy(from)) {
            if (called.equals(to)) return true;
            if (seen.add(called) && leadsTo(called, to, seen)) return true;
        }
        return false;
    }

    private int recursion() {
        int many = 0;
        for (ExecutableElement method : methods) {
            if (!leadsTo(method, method, new HashSet<>())) continue;
            many++;
            Set<Modifier> modifiers = method.getModifiers();
            hold(modifiers.contains(Modifier.PRIVATE), method + " calls itself, so it is private");
            hold(modifiers.contains(Modifier.STATIC) || !calledBy(method).contains(method),
                method + " calls itself at once, so it is static");
            boolean hasDepth = method.getParameters().stream().anyMatch(p -> p.getSimpleName().contentEquals("depth"));
            hold(hasDepth, method + " carries its depth");
        }
        return many;
    }

    /** How many calls stand open at most, each method but once. */
    private int deepest(Element from, Set<Element> open) {
        open.add(from);
        int most = 0;
        for (Element called : calledBy(from)) {
            if (!open.contains(called)) most = Math.max(most, deepest(called, open));
        }
        open.remove(from);
        return most + (from.getKind() == ElementKind.CLASS ? 0 : 1);
    }

    public static void main(String[] args) throws IOException {
        CallsTest test = new CallsTest();
        test.read(Path.of("src/main/java/CorpseTales.java"));
        test.library();
        int recursive = test.recursion();
        int most = 0;
        for (ExecutableElement method : test.methods) most = Math.max(most, test.deepest(method, new HashSet<>()));
        hold(most <= DEEPEST, "calls go at most " + DEEPEST + " deep: " + most);
        hold(test.methods.size() > 25 && most > 1, "the class was read");
        System.out.println(test.methods.size() + " methods, " + recursive + " by recursion, " + most + " deep"
            + (wrong == 0 ? ": as the rules say" : ", " + wrong + " not as the rules say"));
        if (wrong != 0) System.exit(1);
    }
}
