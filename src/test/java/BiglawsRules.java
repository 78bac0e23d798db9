import com.sun.source.tree.ClassTree;
import com.sun.source.tree.CompilationUnitTree;
import com.sun.source.tree.LambdaExpressionTree;
import com.sun.source.tree.MemberReferenceTree;
import com.sun.source.tree.MethodInvocationTree;
import com.sun.source.tree.MethodTree;
import com.sun.source.tree.NewClassTree;
import com.sun.source.tree.ThrowTree;
import com.sun.source.tree.Tree;
import com.sun.source.tree.TryTree;
import com.sun.source.util.JavacTask;
import com.sun.source.util.TreePath;
import com.sun.source.util.TreePathScanner;
import com.sun.source.util.Trees;
import java.io.IOException;
import java.util.ArrayList;
import java.util.HashMap;
import java.util.LinkedHashMap;
import java.util.LinkedHashSet;
import java.util.List;
import java.util.Map;
import java.util.Set;
import javax.lang.model.element.Element;
import javax.lang.model.element.ElementKind;
import javax.lang.model.element.ExecutableElement;
import javax.lang.model.element.VariableElement;
import javax.lang.model.util.ElementFilter;
import javax.tools.JavaCompiler;
import javax.tools.StandardJavaFileManager;
import javax.tools.ToolProvider;

/**
 * Rules 4, 6, 8 and 11 of LANGUAGE.md by the compiler's own reading of the source: which method calls which,
 * so how deep the calls go, what of the library is used, where something is thrown, and how long methods are.
 */
public final class BiglawsRules {
    private static final String SOURCE = "src/main/java/Biglaws.java";
    private static final int MOST_OPEN_CALLS = 8;
    private static final int MOST_LINES = 60;
    private static final Set<String> STATIC_FUNCTIONS_OF = Set.of("java.lang.Integer", "java.lang.Long", "java.lang.Math");

    private static int wrong = 0;

    /** What each method or constructor of the file calls, methods of the library among them. */
    private static final Map<Element, Set<Element>> calls = new LinkedHashMap<>();
    private static final Map<Element, List<Element>> deepest = new HashMap<>();

    private static void wrong(String what) {
        wrong++;
        System.out.println(what);
    }

    private static String name(Element method) {
        return method.getEnclosingElement().getSimpleName() + "." + method.getSimpleName();
    }

    /** Reads the file; with it goes in which methods it is, all constructors for what a field begins with. */
    private static final class Reader extends TreePathScanner<Void, List<? extends Element>> {
        private final Trees trees;
        private final CompilationUnitTree unit;

        Reader(Trees trees, CompilationUnitTree unit) {
            this.trees = trees;
            this.unit = unit;
        }

        private Element element() {
            return trees.getElement(getCurrentPath());
        }

        private long line(long position) {
            return unit.getLineMap().getLineNumber(position);
        }

        @Override
        public Void visitClass(ClassTree tree, List<? extends Element> in) {
            return super.visitClass(tree, ElementFilter.constructorsIn(element().getEnclosedElements()));
        }

        @Override
        public Void visitMethod(MethodTree tree, List<? extends Element> in) {
            Element method = element();
            calls.computeIfAbsent(method, m -> new LinkedHashSet<>());
            long first = line(trees.getSourcePositions().getStartPosition(unit, tree));
            long last = line(trees.getSourcePositions().getEndPosition(unit, tree));
            if (method.getKind() == ElementKind.METHOD && last - first >= MOST_LINES) {
                wrong("rule 11: " + name(method) + " has more than " + MOST_LINES + " lines");
            }
            return super.visitMethod(tree, List.of(method));
        }

        private void called(List<? extends Element> in) {
            for (Element method : in) {
                calls.computeIfAbsent(method, m -> new LinkedHashSet<>()).add(element());
            }
        }

        @Override
        public Void visitMethodInvocation(MethodInvocationTree tree, List<? extends Element> in) {
            if (!tree.getMethodSelect().toString().equals("super")) {
                called(in);
            }
            return super.visitMethodInvocation(tree, in);
        }

        @Override
        public Void visitNewClass(NewClassTree tree, List<? extends Element> in) {
            boolean isThrown = getCurrentPath().getParentPath().getLeaf() instanceof ThrowTree;
            if (!isThrown) {
                called(in);
            }
            return super.visitNewClass(tree, in);
        }

        @Override
        public Void visitThrow(ThrowTree tree, List<? extends Element> in) {
            for (Element method : in) {
                if (method.getKind() == ElementKind.CONSTRUCTOR) {
                    wrong("rule 6: a constructor of " + method.getEnclosingElement() + " throws");
                }
            }
            if (tree.getExpression().getKind() != Tree.Kind.NEW_CLASS) {
                wrong("rule 6: " + tree);
            }
            return super.visitThrow(tree, in);
        }

        @Override
        public Void visitTry(TryTree tree, List<? extends Element> in) {
            wrong("no call of the file needs a try: " + in);
            return super.visitTry(tree, in);
        }

        @Override
        public Void visitLambdaExpression(LambdaExpressionTree tree, List<? extends Element> in) {
            wrong("rule 2: " + tree);
            return super.visitLambdaExpression(tree, in);
        }

        @Override
        public Void visitMemberReference(MemberReferenceTree tree, List<? extends Element> in) {
            wrong("rule 2: " + tree);
            return super.visitMemberReference(tree, in);
        }
    }

    private static void read() throws IOException {
        JavaCompiler compiler = ToolProvider.getSystemJavaCompiler();
        try (StandardJavaFileManager files = compiler.getStandardFileManager(null, null, null)) {
            JavacTask task = (JavacTask) compiler.getTask(null, files, null, List.of("-proc:none"), null,
                    files.getJavaFileObjects(SOURCE));
            Trees trees = Trees.instance(task);
            Iterable<? extends CompilationUnitTree> units = task.parse();
            task.analyze();
            for (CompilationUnitTree unit : units) {
                new Reader(trees, unit).scan(new TreePath(unit), List.of());
            }
        }
    }

    /** Of the library the file uses just the static functions over int and long. */
    private static void checkLibrary() {
        Set<Element> used = new LinkedHashSet<>();
        calls.values().forEach(used::addAll);
        used.removeAll(calls.keySet());
        for (Element function : used) {
            boolean isListed = STATIC_FUNCTIONS_OF.contains(function.getEnclosingElement().toString())
                    && !function.getSimpleName().toString().endsWith("Exact");
            for (VariableElement parameter : ((ExecutableElement) function).getParameters()) {
                isListed &= Set.of("int", "long").contains(parameter.asType().toString());
            }
            if (!isListed) {
                wrong("rule 4: " + name(function) + " is called");
            }
        }
    }

    /** The longest chain of calls from a method on, itself the first; open are those on the way to it. */
    private static List<Element> deepest(Element method, Set<Element> open) {
        if (!open.add(method)) {
            wrong("rule 8: " + name(method) + " calls itself, by whatever way");
            return List.of();
        }
        List<Element> chain = deepest.get(method);
        if (chain == null) {
            chain = List.of();
            for (Element called : calls.getOrDefault(method, Set.of())) {
                List<Element> further = deepest(called, open);
                chain = further.size() > chain.size() ? further : chain;
            }
            List<Element> whole = new ArrayList<>(List.of(method));
            whole.addAll(chain);
            chain = whole;
            deepest.put(method, chain);
        }
        open.remove(method);
        return chain;
    }

    private static void checkDepth() {
        for (Element method : calls.keySet()) {
            List<Element> chain = deepest(method, new LinkedHashSet<>());
            if (chain.size() > MOST_OPEN_CALLS) {
                List<String> names = new ArrayList<>();
                chain.forEach(each -> names.add(name(each)));
                wrong("rule 11: " + chain.size() + " calls are open at once: " + String.join(" > ", names));
            }
        }
    }

    public static void main(String[] args) throws IOException {
        read();
        if (calls.size() < 46) {
            wrong("only " + calls.size() + " methods were read");
        }
        checkLibrary();
        checkDepth();
        System.out.println(wrong == 0 ? "the rules hold as the compiler reads the source" : wrong + " faults");
        if (wrong != 0) {
            System.exit(1);
        }
    }
}
