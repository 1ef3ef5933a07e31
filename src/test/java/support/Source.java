import com.sun.source.tree.CompilationUnitTree;
import com.sun.source.tree.LineMap;
import com.sun.source.tree.MethodTree;
import com.sun.source.tree.Tree;
import com.sun.source.util.JavacTask;
import com.sun.source.util.TreePath;
import com.sun.source.util.TreePathScanner;
import com.sun.source.util.Trees;
import java.io.IOException;
import java.nio.file.Path;
import java.util.ArrayList;
import java.util.List;
import javax.lang.model.element.Element;
import javax.lang.model.type.TypeMirror;
import javax.tools.JavaCompiler;
import javax.tools.StandardJavaFileManager;
import javax.tools.ToolProvider;

/** A Java file as the compiler sees it: its trees, and what their names stand for. */
final class Source {
    private final List<TreePath> paths = new ArrayList<>();
    private final CompilationUnitTree unit;
    private final Trees trees;
    private final String text;

    Source(Path file) throws IOException {
        JavaCompiler compiler = ToolProvider.getSystemJavaCompiler();
        StandardJavaFileManager files = compiler.getStandardFileManager(null, null, null);
        JavacTask task = (JavacTask) compiler.getTask(null, files, null, List.of("-proc:none"), null, files.getJavaFileObjects(file));
        unit = task.parse().iterator().next();
        task.analyze();
        trees = Trees.instance(task);
        text = unit.getSourceFile().getCharContent(true).toString();
        new TreePathScanner<Void, Void>() {
            @Override
            public Void scan(Tree tree, Void nothing) {
                if (tree != null) {
                    paths.add(new TreePath(getCurrentPath(), tree));
                }
                return super.scan(tree, nothing);
            }
        }.scan(new TreePath(unit), null);
    }

    CompilationUnitTree unit() {
        return unit;
    }

    /** Where trees of this kind stand, in the order of the file; what the compiler adds is left out. */
    List<TreePath> all(Class<? extends Tree> kind) {
        List<TreePath> found = new ArrayList<>();
        for (TreePath path : paths) {
            if (kind.isInstance(path.getLeaf()) && startOf(path.getLeaf()) >= 0 && endOf(path.getLeaf()) >= 0) {
                found.add(path);
            }
        }
        return found;
    }

    /** The nearest tree of one of these kinds round this one; null if there is none. */
    @SafeVarargs
    static TreePath around(TreePath path, Class<? extends Tree>... kinds) {
        for (TreePath at = path.getParentPath(); at != null; at = at.getParentPath()) {
            for (Class<? extends Tree> kind : kinds) {
                if (kind.isInstance(at.getLeaf())) {
                    return at;
                }
            }
        }
        return null;
    }

    /** The text of the method round this tree; empty outside of methods. */
    String methodAround(TreePath path) {
        TreePath method = around(path, MethodTree.class);
        return method == null ? "" : textOf(method.getLeaf());
    }

    Element meantBy(TreePath path) {
        return trees.getElement(path);
    }

    TypeMirror typeOf(TreePath path) {
        return trees.getTypeMirror(path);
    }

    String textOf(Tree tree) {
        return text.substring((int) startOf(tree), (int) endOf(tree));
    }

    long linesOf(Tree tree) {
        LineMap lines = unit.getLineMap();
        return lines.getLineNumber(endOf(tree)) - lines.getLineNumber(startOf(tree)) + 1;
    }

    /** For the line that tells a fault. */
    String told(Tree tree) {
        return "line " + unit.getLineMap().getLineNumber(startOf(tree)) + ": " + textOf(tree).lines().findFirst().orElse("");
    }

    private long startOf(Tree tree) {
        return trees.getSourcePositions().getStartPosition(unit, tree);
    }

    private long endOf(Tree tree) {
        return trees.getSourcePositions().getEndPosition(unit, tree);
    }
}
