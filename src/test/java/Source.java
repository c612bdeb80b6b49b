import com.sun.source.tree.BlockTree;
import com.sun.source.tree.ClassTree;
import com.sun.source.tree.CompilationUnitTree;
import com.sun.source.tree.MethodInvocationTree;
import com.sun.source.tree.MethodTree;
import com.sun.source.tree.NewClassTree;
import com.sun.source.tree.Tree;
import com.sun.source.util.JavacTask;
import com.sun.source.util.TreePath;
import com.sun.source.util.TreePathScanner;
import com.sun.source.util.Trees;
import java.io.IOException;
import java.io.StringWriter;
import java.nio.file.Path;
import java.util.ArrayList;
import java.util.List;
import java.util.Map;
import java.util.Set;
import java.util.TreeMap;
import java.util.TreeSet;
import javax.lang.model.element.Element;
import javax.lang.model.element.ElementKind;
import javax.lang.model.element.TypeElement;
import javax.lang.model.type.TypeMirror;
import javax.tools.JavaCompiler;
import javax.tools.StandardJavaFileManager;
import javax.tools.ToolProvider;

/** The class's file as the compiler understands it. */
final class Source {
    static final String FILE = "src/main/java/IndentReader.java";
    private static final String OUTER = "IndentReader";

    final CompilationUnitTree unit;
    final List<TreePath> paths = new ArrayList<>();
    private final Trees trees;

    Source() throws IOException {
        JavaCompiler compiler = ToolProvider.getSystemJavaCompiler();
        StandardJavaFileManager files = compiler.getStandardFileManager(null, null, null);
        JavacTask task = (JavacTask) compiler.getTask(new StringWriter(), files, null, List.of("-proc:none"), null,
                files.getJavaFileObjects(Path.of(FILE)));
        unit = task.parse().iterator().next();
        task.analyze();
        trees = Trees.instance(task);
        new TreePathScanner<Void, Void>() {
            @Override
            public Void scan(Tree tree, Void nothing) {
                if (tree != null) {
                    paths.add(getCurrentPath() == null ? new TreePath(unit) : new TreePath(getCurrentPath(), tree));
                }
                return super.scan(tree, nothing);
            }
        }.scan(unit, null);
    }

    Element elementOf(TreePath path) {
        return trees.getElement(path);
    }

    TypeMirror typeOf(TreePath path) {
        return trees.getTypeMirror(path);
    }

    long lineOf(Tree tree) {
        return unit.getLineMap().getLineNumber(trees.getSourcePositions().getStartPosition(unit, tree));
    }

    long linesOf(Tree tree) {
        return 1 + unit.getLineMap().getLineNumber(trees.getSourcePositions().getEndPosition(unit, tree)) - lineOf(tree);
    }

    /** Classes, in order, the outer one first. */
    List<TreePath> classes() {
        return paths.stream().filter(path -> path.getLeaf() instanceof ClassTree).toList();
    }

    List<TreePath> methods() {
        return paths.stream().filter(path -> path.getLeaf() instanceof MethodTree).toList();
    }

    static boolean isOwn(Element element) {
        for (Element at = element; at != null; at = at.getEnclosingElement()) {
            if (at instanceof TypeElement && at.getSimpleName().contentEquals(OUTER)) {
                return true;
            }
        }
        return false;
    }

    /** "Text.at": a method by the class that declares it. */
    static String nameOf(Element method) {
        return method.getEnclosingElement().getSimpleName() + "." + method.getSimpleName();
    }

    /** Own methods by name, each with the names of those that it calls. */
    Map<String, Set<String>> calls() {
        Map<String, Set<String>> calls = new TreeMap<>();
        for (TreePath path : paths) {
            boolean call = path.getLeaf() instanceof MethodInvocationTree || path.getLeaf() instanceof NewClassTree;
            Element caller = call ? elementOf(methodAround(path)) : null;
            if (caller != null && !nameOf(elementOf(path)).endsWith(".<init>")) {
                calls.computeIfAbsent(nameOf(caller), none -> new TreeSet<>()).add(nameOf(elementOf(path)));
            }
        }
        return calls;
    }

    /** The method or class whose code a part of the file is. */
    TreePath methodAround(TreePath path) {
        TreePath at = path;
        while (!(at.getLeaf() instanceof MethodTree) && !(at.getLeaf() instanceof ClassTree)) {
            at = at.getParentPath();
        }
        return at;
    }

    static boolean isInitialiserBlock(TreePath path) {
        return path.getLeaf() instanceof BlockTree && path.getParentPath().getLeaf() instanceof ClassTree;
    }

    boolean isConstructor(TreePath path) {
        return path.getLeaf() instanceof MethodTree && elementOf(path).getKind() == ElementKind.CONSTRUCTOR;
    }
}
