import com.sun.source.tree.ClassTree;
import com.sun.source.tree.CompilationUnitTree;
import com.sun.source.tree.LambdaExpressionTree;
import com.sun.source.tree.MemberReferenceTree;
import com.sun.source.tree.MethodInvocationTree;
import com.sun.source.tree.MethodTree;
import com.sun.source.tree.NewClassTree;
import com.sun.source.tree.ThrowTree;
import com.sun.source.tree.Tree;
import com.sun.source.tree.TryTree;
import com.sun.source.util.JavacTask;
import com.sun.source.util.TreePath;
import com.sun.source.util.TreePathScanner;
import com.sun.source.util.Trees;
import java.nio.file.Path;
import java.util.ArrayList;
import java.util.List;
import java.util.Map;
import java.util.Set;
import java.util.TreeMap;
import java.util.TreeSet;
import java.util.regex.Pattern;
import javax.lang.model.element.Element;
import javax.lang.model.element.ElementKind;
import javax.lang.model.element.ExecutableElement;
import javax.tools.JavaCompiler;
import javax.tools.StandardJavaFileManager;
import javax.tools.ToolProvider;

/** What of LANGUAGE.md can be seen only when it is known which method a call means: the library, the depth of calls, recursion. */
public final class LanguageCalls {
    private static final int MOST_DEEP = 8;
    private static final int MOST_LINES = 60;
    private static final int MOST_PARAMETERS = 7;
    private static final Pattern LIBRARY = Pattern.compile("(Object|Enum)\\.<init>"
            + "|String\\.(<init>|length|charAt|isEmpty|equals|indexOf|substring|toCharArray)"
            + "|StringBuilder\\.(<init>|append|charAt|setCharAt|setLength|deleteCharAt|reverse|length|toString)"
            + "|(ArrayList|List)\\.(<init>|add|get|set|remove|size|isEmpty|clear|of)"
            + "|(Math|Integer|Long)\\.(compare|max|min|abs|bitCount|floorDiv|floorMod)"
            + "|System\\.arraycopy|Arrays\\.(copyOf|copyOfRange|fill)|Array\\.clone");

    private static final Map<String, Set<String>> calls = new TreeMap<>();
    private static final Set<String> recursive = new TreeSet<>();
    private static int wrong = 0;

    private static void must(boolean holds, String what) {
        if (!holds) {
            wrong++;
            System.out.println(what);
        }
    }

    private static String name(Element e) {
        return e.getEnclosingElement().getSimpleName() + "." + e.getSimpleName();
    }

    /** Writes down which method calls which, and looks at each call of the library. */
    private static final class Scanner extends TreePathScanner<Void, String> {
        private final Trees trees;
        private CompilationUnitTree unit;

        Scanner(Trees trees) {
            this.trees = trees;
        }

        @Override public Void visitCompilationUnit(CompilationUnitTree tree, String from) {
            unit = tree;
            return super.visitCompilationUnit(tree, from);
        }

        @Override public Void visitClass(ClassTree tree, String from) {
            must(tree.getSimpleName().length() > 0, "rule 2: an anonymous class");
            TreePath above = getCurrentPath().getParentPath();
            must(above.getLeaf().getKind() != Tree.Kind.BLOCK, "rule 2: a local class");
            return super.visitClass(tree, from);
        }

        @Override public Void visitMethod(MethodTree tree, String from) {
            Element e = trees.getElement(getCurrentPath());
            long lines = line(trees.getSourcePositions().getEndPosition(unit, tree)) - line(trees.getSourcePositions().getStartPosition(unit, tree)) + 1;
            must(lines <= MOST_LINES, "rule 11: " + name(e) + " has " + lines + " lines");
            must(tree.getParameters().size() <= MOST_PARAMETERS, "rule 11: " + name(e) + " has too many parameters");
            calls.putIfAbsent(name(e), new TreeSet<>());
            return super.visitMethod(tree, name(e));
        }

        private long line(long position) {
            return unit.getLineMap().getLineNumber(position);
        }

        @Override public Void visitMethodInvocation(MethodInvocationTree tree, String from) {
            call(trees.getElement(new TreePath(getCurrentPath(), tree.getMethodSelect())), from);
            return super.visitMethodInvocation(tree, from);
        }

        @Override public Void visitNewClass(NewClassTree tree, String from) {
            call(trees.getElement(getCurrentPath()), from);
            return super.visitNewClass(tree, from);
        }

        private void call(Element e, String from) {
            // what stands in a field's initialiser is called by no method, but by each constructor
            String caller = from == null ? "BillRegistry.<init>" : from;
            if (!(e instanceof ExecutableElement)) {
                must(false, "a call that means nothing in " + caller);
            } else if (isOwn(e)) {
                calls.computeIfAbsent(caller, k -> new TreeSet<>()).add(name(e));
            } else {
                must(LIBRARY.matcher(name(e)).matches(), "rule 4: " + caller + " calls " + name(e));
            }
        }

        // the values() of an enum has no tree, though it is the file's own
        private boolean isOwn(Element e) {
            Element outermost = e;
            while (outermost.getEnclosingElement().getKind() != ElementKind.PACKAGE) {
                outermost = outermost.getEnclosingElement();
            }
            return outermost.getSimpleName().contentEquals("BillRegistry");
        }

        @Override public Void visitLambdaExpression(LambdaExpressionTree tree, String from) {
            must(false, "rule 2: a lambda in " + from);
            return super.visitLambdaExpression(tree, from);
        }

        @Override public Void visitMemberReference(MemberReferenceTree tree, String from) {
            must(false, "rule 2: a method reference in " + from);
            return super.visitMemberReference(tree, from);
        }

        @Override public Void visitTry(TryTree tree, String from) {
            must(false, "rule 6: a try in " + from);
            return super.visitTry(tree, from);
        }

        @Override public Void visitThrow(ThrowTree tree, String from) {
            must(false, "rule 6: a throw in " + from);
            return super.visitThrow(tree, from);
        }
    }

    /** How many calls stand open at most from this one on; a method that calls itself counts once. */
    private static int depth(String method, List<String> open) {
        int below = 0;
        for (String called : calls.getOrDefault(method, Set.of())) {
            if (called.equals(method)) {
                recursive.add(method);
            } else if (open.contains(called)) {
                must(false, "rule 8: " + open + " come back to " + called);
            } else {
                List<String> more = new ArrayList<>(open);
                more.add(called);
                below = Math.max(below, depth(called, more));
            }
        }
        return 1 + below;
    }

    public static void main(String[] args) throws Exception {
        JavaCompiler compiler = ToolProvider.getSystemJavaCompiler();
        int deepest = 0;
        try (StandardJavaFileManager files = compiler.getStandardFileManager(null, null, null)) {
            var source = files.getJavaFileObjects(Path.of("src/main/java/BillRegistry.java"));
            JavacTask task = (JavacTask) compiler.getTask(null, files, null, List.of("-proc:none"), null, source);
            Iterable<? extends CompilationUnitTree> units = task.parse();
            task.analyze();
            new Scanner(Trees.instance(task)).scan(units, null);
        }
        for (String method : calls.keySet()) {
            int deep = depth(method, List.of(method));
            must(deep <= MOST_DEEP, "rule 11: calls go " + deep + " deep from " + method);
            deepest = Math.max(deepest, deep);
        }
        must(calls.size() > 100, "only " + calls.size() + " methods were seen");
        must(recursive.equals(Set.of("Cure.fewestFrom")), "rule 8: these call themselves: " + recursive);
        System.out.println(calls.size() + " methods, calls go " + deepest + " deep, " + wrong + " rules are not kept");
        if (wrong != 0) {
            System.exit(1);
        }
    }
}
