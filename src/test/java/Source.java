import com.sun.source.tree.CompilationUnitTree;
import com.sun.source.tree.MethodTree;
import com.sun.source.tree.StatementTree;
import com.sun.source.tree.Tree;
import com.sun.source.util.JavacTask;
import com.sun.source.util.TreePath;
import com.sun.source.util.TreePathScanner;
import com.sun.source.util.Trees;
import java.io.IOException;
import java.nio.file.Path;
import java.util.ArrayList;
import java.util.LinkedHashMap;
import java.util.LinkedHashSet;
import java.util.List;
import java.util.Map;
import java.util.Set;
import javax.lang.model.element.Element;
import javax.lang.model.element.ExecutableElement;
import javax.tools.JavaCompiler;
import javax.tools.StandardJavaFileManager;
import javax.tools.ToolProvider;

/** A program's source as the compiler reads it: what stands in it, where, and which method calls which. */
final class Source {
    /** Something that stands in the source, with the method or constructor round it, if there is one. */
    record Part(Tree tree, Element meant, ExecutableElement round, String type) {
        boolean is(Tree.Kind kind) {
            return tree.getKind() == kind;
        }

        @Override
        public String toString() {
            String text = tree.toString().trim();
            int end = text.indexOf('\n');
            return (end < 0 ? text : text.substring(0, end)) + (round == null ? "" : " in " + round);
        }
    }

    private final CompilationUnitTree unit;
    private final Trees trees;
    private final List<Part> parts = new ArrayList<>();
    private final Map<ExecutableElement, MethodTree> methods = new LinkedHashMap<>();
    private final Map<ExecutableElement, Set<ExecutableElement>> calls = new LinkedHashMap<>();

    Source(Path file) throws IOException {
        JavaCompiler compiler = ToolProvider.getSystemJavaCompiler();
        StandardJavaFileManager files = compiler.getStandardFileManager(null, null, null);
        JavacTask task = (JavacTask) compiler.getTask(
                null, files, null, List.of("-proc:none"), null, files.getJavaFileObjects(file));
        unit = task.parse().iterator().next();
        task.analyze();
        trees = Trees.instance(task);
        new Reader().scan(unit, null);
    }

    private final class Reader extends TreePathScanner<Void, ExecutableElement> {
        @Override
        public Void scan(Tree tree, ExecutableElement round) {
            if (tree == null || !isWritten(tree)) {
                return null;
            }
            TreePath path = new TreePath(getCurrentPath() == null ? new TreePath(unit) : getCurrentPath(), tree);
            Element meant = trees.getElement(path);
            parts.add(new Part(tree, meant, round, String.valueOf(trees.getTypeMirror(path))));
            boolean isCall = tree.getKind() == Tree.Kind.METHOD_INVOCATION || tree.getKind() == Tree.Kind.NEW_CLASS;
            if (isCall && round != null && meant instanceof ExecutableElement called) {
                calls.get(round).add(called);
            }
            if (tree instanceof MethodTree method) {
                ExecutableElement itself = (ExecutableElement) meant;
                methods.put(itself, method);
                calls.put(itself, new LinkedHashSet<>());
                return super.scan(tree, itself);
            }
            return super.scan(tree, round);
        }
    }

    /** The compiler adds constructors, and calls of those above them, which have no end in the file. */
    private boolean isWritten(Tree tree) {
        boolean mayBeAdded = tree instanceof MethodTree || tree instanceof StatementTree;
        return !mayBeAdded || trees.getSourcePositions().getEndPosition(unit, tree) >= 0;
    }

    List<Part> parts() {
        return parts;
    }

    List<Part> parts(Tree.Kind... kinds) {
        return parts.stream().filter(part -> List.of(kinds).contains(part.tree.getKind())).toList();
    }

    Map<ExecutableElement, MethodTree> methods() {
        return methods;
    }

    Set<ExecutableElement> callsOf(ExecutableElement method) {
        return calls.getOrDefault(method, Set.of());
    }

    /** From the first line of a tree to its last one. */
    int lines(Tree tree) {
        long start = trees.getSourcePositions().getStartPosition(unit, tree);
        long end = trees.getSourcePositions().getEndPosition(unit, tree);
        return (int) (unit.getLineMap().getLineNumber(end) - unit.getLineMap().getLineNumber(start) + 1);
    }

    /** The longest chain of calls that begins with a method, no method twice in it. */
    List<ExecutableElement> deepestFrom(ExecutableElement method) {
        return deepestFrom(method, new LinkedHashSet<>());
    }

    private List<ExecutableElement> deepestFrom(ExecutableElement method, Set<ExecutableElement> open) {
        List<ExecutableElement> deepest = List.of();
        open.add(method);
        for (ExecutableElement called : callsOf(method)) {
            if (!open.contains(called)) {
                List<ExecutableElement> below = deepestFrom(called, open);
                deepest = below.size() > deepest.size() ? below : deepest;
            }
        }
        open.remove(method);
        List<ExecutableElement> chain = new ArrayList<>(List.of(method));
        chain.addAll(deepest);
        return chain;
    }

    /** All methods that come to be called, at once or later, when this one is. */
    Set<ExecutableElement> below(ExecutableElement method) {
        Set<ExecutableElement> found = new LinkedHashSet<>();
        List<ExecutableElement> open = new ArrayList<>(callsOf(method));
        while (!open.isEmpty()) {
            ExecutableElement next = open.remove(open.size() - 1);
            if (found.add(next)) {
                open.addAll(callsOf(next));
            }
        }
        return found;
    }

    /** The methods that call this one again, itself among them if it stands in a round of calls. */
    Set<ExecutableElement> roundOf(ExecutableElement method) {
        Set<ExecutableElement> found = new LinkedHashSet<>();
        for (ExecutableElement called : below(method)) {
            if (below(called).contains(method)) {
                found.add(called);
            }
        }
        return found;
    }
}
