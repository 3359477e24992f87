import com.sun.source.tree.BlockTree;
import com.sun.source.tree.CompilationUnitTree;
import com.sun.source.tree.ClassTree;
import com.sun.source.tree.LineMap;
import com.sun.source.tree.MethodInvocationTree;
import com.sun.source.tree.MethodTree;
import com.sun.source.tree.Tree;
import com.sun.source.tree.VariableTree;
import com.sun.source.util.JavacTask;
import com.sun.source.util.SourcePositions;
import com.sun.source.util.TreePath;
import com.sun.source.util.TreePathScanner;
import com.sun.source.util.Trees;
import java.io.IOException;
import java.io.UncheckedIOException;
import java.nio.charset.StandardCharsets;
import java.nio.file.Path;
import java.util.ArrayList;
import java.util.List;
import javax.lang.model.element.Element;
import javax.lang.model.element.ElementKind;
import javax.lang.model.type.TypeMirror;
import javax.tools.JavaCompiler;
import javax.tools.StandardJavaFileManager;
import javax.tools.ToolProvider;

/** A source as the compiler reads it: its parts with what stands around them, and what names mean. */
final class Code {
    private final Trees trees;
    private final CompilationUnitTree unit;

    private Code(Trees trees, CompilationUnitTree unit) {
        this.trees = trees;
        this.unit = unit;
    }

    static Code of(Path source) {
        JavaCompiler compiler = ToolProvider.getSystemJavaCompiler();
        StandardJavaFileManager files = compiler.getStandardFileManager(null, null, StandardCharsets.UTF_8);
        JavacTask task = (JavacTask) compiler.getTask(null, files, null, List.of("-proc:none"), null,
                files.getJavaFileObjects(source));
        try {
            CompilationUnitTree unit = task.parse().iterator().next();
            task.analyze();
            return new Code(Trees.instance(task), unit);
        } catch (IOException thrown) {
            throw new UncheckedIOException(thrown);
        }
    }

    CompilationUnitTree unit() {
        return unit;
    }

    /** All parts of a kind, from the first to the last. */
    List<TreePath> all(Class<? extends Tree> kind) {
        return within(new TreePath(unit), kind);
    }

    List<TreePath> within(TreePath whole, Class<? extends Tree> kind) {
        List<TreePath> found = new ArrayList<>();
        new TreePathScanner<Void, Void>() {
            @Override
            public Void scan(Tree tree, Void nothing) {
                if (kind.isInstance(tree)) {
                    found.add(new TreePath(getCurrentPath(), tree));
                }
                return super.scan(tree, nothing);
            }
        }.scan(whole, null);
        return found;
    }

    Element element(TreePath path) {
        return trees.getElement(path);
    }

    TypeMirror type(TreePath path) {
        return trees.getTypeMirror(path);
    }

    TypeMirror type(TreePath path, Tree child) {
        return trees.getTypeMirror(new TreePath(path, child));
    }

    /** What stands in the source's one file, the outer class itself, too. */
    boolean isOwn(Element element) {
        Element outer = element;
        while (outer != null && outer.getEnclosingElement() != null
                && outer.getEnclosingElement().getKind() != ElementKind.PACKAGE) {
            outer = outer.getEnclosingElement();
        }
        return outer != null && outer.equals(element(new TreePath(new TreePath(unit), unit.getTypeDecls().get(0))));
    }

    /** The nearest of a kind around a part; null: there is none. */
    static TreePath around(TreePath path, Class<? extends Tree> kind) {
        TreePath outer = path.getParentPath();
        while (outer != null && !kind.isInstance(outer.getLeaf())) {
            outer = outer.getParentPath();
        }
        return outer;
    }

    /** How many lines it has. */
    long lines(Tree tree) {
        SourcePositions places = trees.getSourcePositions();
        LineMap map = unit.getLineMap();
        return map.getLineNumber(places.getEndPosition(unit, tree))
                - map.getLineNumber(places.getStartPosition(unit, tree)) + 1;
    }

    /** Where it stands, for one who reads what was found. */
    String told(TreePath path) {
        long line = unit.getLineMap().getLineNumber(trees.getSourcePositions().getStartPosition(unit, path.getLeaf()));
        String text = path.getLeaf().toString().strip();
        return "line " + line + ", " + text.lines().findFirst().orElse("");
    }

    /** Own methods that a method calls, constructors left out. */
    List<TreePath> ownCallsOf(TreePath method) {
        List<TreePath> called = new ArrayList<>();
        for (TreePath call : within(method, MethodInvocationTree.class)) {
            Element element = element(call);
            if (element.getKind() == ElementKind.METHOD && isOwn(element)) {
                called.add(trees.getPath(element));
            }
        }
        return called;
    }

    /** Fields of a class, without those of classes inside it. */
    static List<VariableTree> fields(ClassTree type) {
        List<VariableTree> fields = new ArrayList<>();
        for (Tree member : type.getMembers()) {
            if (member instanceof VariableTree field) {
                fields.add(field);
            }
        }
        return fields;
    }

    static List<BlockTree> blocks(ClassTree type) {
        List<BlockTree> blocks = new ArrayList<>();
        for (Tree member : type.getMembers()) {
            if (member instanceof BlockTree block) {
                blocks.add(block);
            }
        }
        return blocks;
    }

    static boolean isConstructor(MethodTree method) {
        return method.getName().contentEquals("<init>");
    }
}
