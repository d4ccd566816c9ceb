import com.sun.source.tree.CompilationUnitTree;
import com.sun.source.tree.MethodInvocationTree;
import com.sun.source.tree.MethodTree;
import com.sun.source.tree.Tree;
import com.sun.source.util.JavacTask;
import com.sun.source.util.TreePath;
import com.sun.source.util.TreePathScanner;
import com.sun.source.util.Trees;
import java.io.IOException;
import java.nio.file.Path;
import java.util.ArrayList;
import java.util.EnumSet;
import java.util.LinkedHashMap;
import java.util.LinkedHashSet;
import java.util.List;
import java.util.Map;
import java.util.Set;
import javax.lang.model.element.Element;
import javax.lang.model.type.TypeMirror;
import javax.tools.JavaCompiler;
import javax.tools.StandardJavaFileManager;
import javax.tools.ToolProvider;

/** A Java file as the compiler reads it: its parts, each with what it stands in, and which method calls which. */
final class Source {
    private final Trees trees;
    private final CompilationUnitTree unit;
    private final List<TreePath> parts = new ArrayList<>();
    private final Map<Element, Set<Element>> calls = new LinkedHashMap<>();

    Source(Path file) throws IOException {
        JavaCompiler compiler = ToolProvider.getSystemJavaCompiler();
        StandardJavaFileManager files = compiler.getStandardFileManager(null, null, null);
        JavacTask task = (JavacTask) compiler.getTask(null, files, null, List.of("-proc:none"), null,
                files.getJavaFileObjects(file));
        unit = task.parse().iterator().next();
        task.analyze();
        trees = Trees.instance(task);
        new Collector().scan(new TreePath(unit), null);
    }

    private final class Collector extends TreePathScanner<Void, Void> {
        @Override
        public Void scan(Tree tree, Void none) {
            if (tree != null && getCurrentPath() != null && isWritten(tree)) {
                parts.add(new TreePath(getCurrentPath(), tree));
            }
            return super.scan(tree, none);
        }

        @Override
        public Void visitMethod(MethodTree tree, Void none) {
            calls.put(element(getCurrentPath()), new LinkedHashSet<>());
            return super.visitMethod(tree, none);
        }

        @Override
        public Void visitMethodInvocation(MethodInvocationTree tree, Void none) {
            TreePath caller = around(getCurrentPath(), Tree.Kind.METHOD);
            if (caller != null) {
                calls.get(element(caller)).add(element(getCurrentPath()));
            }
            return super.visitMethodInvocation(tree, none);
        }

        /** What the compiler adds of its own, as super(), has no end in the file. */
        private boolean isWritten(Tree tree) {
            return trees.getSourcePositions().getEndPosition(unit, tree) >= 0;
        }
    }

    /** All parts of some kinds, in the order of the file. */
    List<TreePath> all(Tree.Kind first, Tree.Kind... more) {
        EnumSet<Tree.Kind> kinds = EnumSet.of(first, more);
        List<TreePath> found = new ArrayList<>();
        for (TreePath part : parts) {
            if (kinds.contains(part.getLeaf().getKind())) {
                found.add(part);
            }
        }
        return found;
    }

    /** The nearest part of a kind that a part stands in; null without. */
    static TreePath around(TreePath part, Tree.Kind kind) {
        TreePath at = part.getParentPath();
        while (at != null && at.getLeaf().getKind() != kind) {
            at = at.getParentPath();
        }
        return at;
    }

    Element element(TreePath part) {
        return trees.getElement(part);
    }

    TypeMirror type(TreePath part) {
        return trees.getTypeMirror(part);
    }

    /** Each method and constructor of the file, and what it calls. */
    Map<Element, Set<Element>> calls() {
        return calls;
    }

    int lines(TreePath part) {
        long end = trees.getSourcePositions().getEndPosition(unit, part.getLeaf());
        return (int) (lineOf(end) - lineOf(start(part))) + 1;
    }

    String place(TreePath part) {
        return "line " + lineOf(start(part));
    }

    private long start(TreePath part) {
        return trees.getSourcePositions().getStartPosition(unit, part.getLeaf());
    }

    private long lineOf(long position) {
        return unit.getLineMap().getLineNumber(position);
    }
}
