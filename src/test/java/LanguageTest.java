import com.sun.source.tree.ArrayAccessTree;
import com.sun.source.tree.AssertTree;
import com.sun.source.tree.AssignmentTree;
import com.sun.source.tree.BinaryTree;
import com.sun.source.tree.BlockTree;
import com.sun.source.tree.CaseTree;
import com.sun.source.tree.CatchTree;
import com.sun.source.tree.ClassTree;
import com.sun.source.tree.CompoundAssignmentTree;
import com.sun.source.tree.ConditionalExpressionTree;
import com.sun.source.tree.DoWhileLoopTree;
import com.sun.source.tree.ExpressionTree;
import com.sun.source.tree.ForLoopTree;
import com.sun.source.tree.IfTree;
import com.sun.source.tree.InstanceOfTree;
import com.sun.source.tree.LambdaExpressionTree;
import com.sun.source.tree.LiteralTree;
import com.sun.source.tree.MemberReferenceTree;
import com.sun.source.tree.MemberSelectTree;
import com.sun.source.tree.MethodInvocationTree;
import com.sun.source.tree.MethodTree;
import com.sun.source.tree.NewArrayTree;
import com.sun.source.tree.NewClassTree;
import com.sun.source.tree.StatementTree;
import com.sun.source.tree.SwitchTree;
import com.sun.source.tree.SynchronizedTree;
import com.sun.source.tree.ThrowTree;
import com.sun.source.tree.Tree;
import com.sun.source.tree.TryTree;
import com.sun.source.tree.TypeCastTree;
import com.sun.source.tree.UnaryTree;
import com.sun.source.tree.VariableTree;
import com.sun.source.tree.WhileLoopTree;
import com.sun.source.util.TreePath;
import java.lang.reflect.Array;
import java.lang.reflect.Field;
import java.lang.reflect.Modifier;
import java.nio.file.Path;
import java.util.IdentityHashMap;
import java.util.List;
import java.util.Map;
import java.util.Set;
import java.util.regex.Pattern;
import javax.lang.model.element.Element;
import javax.lang.model.element.ElementKind;
import javax.lang.model.element.VariableElement;
import javax.lang.model.type.ArrayType;
import javax.lang.model.type.DeclaredType;
import javax.lang.model.type.TypeKind;
import javax.lang.model.type.TypeMirror;

/**
 * The rules of ../shared/LANGUAGE.md, each held against the class as the compiler reads it. Where the
 * class needs less than a rule leaves (no recursion, no library but Math and Integer), that is held.
 */
public final class LanguageTest {
    private static final Code CODE = Code.of(Path.of("src/main/java/WellEchoes.java"));
    private static final Set<String> LIBRARY = Set.of("java.lang.Integer.bitCount(int)", "java.lang.Math.abs(int)",
            "java.lang.Math.min(int,int)", "java.lang.Math.max(int,int)");

    public static void main(String[] args) {
        Edge.run(LanguageTest.class, "rule");
    }

    private static void none(Class<? extends Tree> kind) {
        for (TreePath found : CODE.all(kind)) {
            Check.that("no " + kind.getSimpleName() + ": " + CODE.told(found), false);
        }
    }

    private static ClassTree outer() {
        return (ClassTree) CODE.unit().getTypeDecls().get(0);
    }

    static void rule01OneFileWithoutAPackage() {
        Check.due("classes of the file", CODE.unit().getTypeDecls().size(), 1);
        Check.that("no package", CODE.unit().getPackage() == null);
        Check.due("imports", CODE.unit().getImports().size(), 0);
        Check.that("WellEchoes", outer().getSimpleName().contentEquals("WellEchoes"));
    }

    /** FaceTest has what is to be seen; all the rest is hidden, and bears no name of the face. */
    static void rule01NoNameOfThePublicOnes() {
        Set<String> face = FaceTest.names();
        for (TreePath path : CODE.all(MethodTree.class)) {
            MethodTree method = (MethodTree) path.getLeaf();
            if (face.contains(method.getName().toString())) {
                Check.that(CODE.told(path) + " is of the face", path.getParentPath().getLeaf() == outer()
                        && method.getModifiers().getFlags().toString().equals("[public]"));
            }
        }
    }

    static void rule02NestedClassesAreStatic() {
        for (TreePath path : CODE.all(ClassTree.class)) {
            ClassTree type = (ClassTree) path.getLeaf();
            if (type != outer()) {
                Check.that(type.getSimpleName() + " stands in a class", path.getParentPath().getLeaf() instanceof ClassTree);
                Check.that(type.getSimpleName() + " is a static class", type.getKind() == Tree.Kind.CLASS
                        && type.getModifiers().getFlags().toString().contains("static"));
                Check.that(type.getSimpleName() + " is of no other class", type.getExtendsClause() == null
                        && type.getImplementsClause().isEmpty());
            }
        }
    }

    static void rule02NoLambdaNoReferenceNoBody() {
        none(LambdaExpressionTree.class);
        none(MemberReferenceTree.class);
        for (TreePath path : CODE.all(NewClassTree.class)) {
            Check.that(CODE.told(path) + " has no body", ((NewClassTree) path.getLeaf()).getClassBody() == null);
        }
    }

    private static boolean isOwnClass(TypeMirror type) {
        return type.getKind() == TypeKind.DECLARED && CODE.isOwn(((DeclaredType) type).asElement());
    }

    /** int, long, boolean; rows of int; own classes, and rows of them. */
    private static boolean isAllowed(TypeMirror type) {
        if (type.getKind() == TypeKind.ARRAY) {
            TypeMirror of = ((ArrayType) type).getComponentType();
            return of.getKind() == TypeKind.INT || isOwnClass(of);
        }
        return Set.of(TypeKind.INT, TypeKind.LONG, TypeKind.BOOLEAN).contains(type.getKind()) || isOwnClass(type);
    }

    static void rule03Types() {
        for (TreePath path : CODE.all(VariableTree.class)) {
            Check.that("type of " + CODE.told(path), isAllowed(CODE.type(path)));
        }
        for (TreePath path : CODE.all(MethodTree.class)) {
            MethodTree method = (MethodTree) path.getLeaf();
            if (!Code.isConstructor(method)) {
                TypeMirror type = CODE.type(path, method.getReturnType());
                Check.that("type of " + CODE.told(path), type.getKind() == TypeKind.VOID || isAllowed(type));
            }
        }
        for (TreePath path : CODE.all(ExpressionTree.class)) {
            TypeMirror type = CODE.type(path);
            boolean isNumber = type != null && Set.of(TypeKind.FLOAT, TypeKind.DOUBLE).contains(type.getKind());
            Check.that("no float or double: " + CODE.told(path), !isNumber);
        }
    }

    static void rule03NoTexts() {
        for (TreePath path : CODE.all(LiteralTree.class)) {
            Check.that("no text: " + CODE.told(path), !(((LiteralTree) path.getLeaf()).getValue() instanceof String));
        }
    }

    static void rule04TheLibrary() {
        for (TreePath path : CODE.all(MethodInvocationTree.class)) {
            Element called = CODE.element(path);
            if (called.getKind() == ElementKind.METHOD && !CODE.isOwn(called)) {
                String name = called.getEnclosingElement() + "." + called;
                Check.that(name + " may be called", LIBRARY.contains(name));
            }
        }
        for (TreePath path : CODE.all(NewClassTree.class)) {
            Check.that(CODE.told(path) + " is of an own class", isOwnClass(CODE.type(path)));
        }
        for (TreePath path : CODE.all(MemberSelectTree.class)) {
            MemberSelectTree select = (MemberSelectTree) path.getLeaf();
            Element element = CODE.element(path);
            if (element != null && element.getKind() == ElementKind.FIELD && !CODE.isOwn(element)) {
                TypeMirror of = CODE.type(path, select.getExpression());
                Check.that(CODE.told(path) + " is a length", of.getKind() == TypeKind.ARRAY
                        && select.getIdentifier().contentEquals("length"));
            }
        }
    }

    static void rule05StaticFieldsAreConstants() {
        for (TreePath path : CODE.all(ClassTree.class)) {
            Check.due("blocks of " + CODE.told(path), Code.blocks((ClassTree) path.getLeaf()).size(), 0);
            for (VariableTree field : Code.fields((ClassTree) path.getLeaf())) {
                VariableElement element = (VariableElement) CODE.element(new TreePath(path, field));
                if (element.getModifiers().contains(javax.lang.model.element.Modifier.STATIC)) {
                    Check.that(field.getName() + " is a constant", element.getConstantValue() != null);
                }
            }
        }
    }

    static void rule06NoExceptions() {
        none(ThrowTree.class);
        none(TryTree.class);
        none(CatchTree.class);
        none(SynchronizedTree.class);
        none(AssertTree.class);
        for (TreePath path : CODE.all(MethodTree.class)) {
            Check.due("throws of " + CODE.told(path), ((MethodTree) path.getLeaf()).getThrows().size(), 0);
        }
    }

    static void rule06SwitchesOnNumbers() {
        for (TreePath path : CODE.all(SwitchTree.class)) {
            SwitchTree found = (SwitchTree) path.getLeaf();
            Check.that(CODE.told(path) + " is on numbers",
                    CODE.type(path, found.getExpression()).getKind() == TypeKind.INT);
            for (CaseTree label : found.getCases()) {
                for (ExpressionTree number : label.getExpressions()) {
                    Check.that(number + " is a number", number instanceof LiteralTree);
                }
            }
        }
    }

    /** Casts are of numbers alone, so none can go wrong. */
    static void rule06CastsAreOfNumbers() {
        none(InstanceOfTree.class);
        for (TreePath path : CODE.all(TypeCastTree.class)) {
            TypeCastTree cast = (TypeCastTree) path.getLeaf();
            Check.that(CODE.told(path), CODE.type(path, cast.getType()).getKind().isPrimitive()
                    && CODE.type(path, cast.getExpression()).getKind().isPrimitive());
        }
    }

    private static void guarding(StringBuilder told, Tree condition) {
        told.append(' ').append(condition).append(' ');
    }

    /** What was asked on the way to a part: around it, ahead of it with a return, in counters' bounds. */
    private static String guardsOf(TreePath path) {
        StringBuilder told = new StringBuilder();
        Tree inner = path.getLeaf();
        TreePath outer = path.getParentPath();
        while (!(outer.getLeaf() instanceof MethodTree)) {
            Tree leaf = outer.getLeaf();
            if (leaf instanceof IfTree branch && inner != branch.getCondition()) {
                guarding(told, branch.getCondition());
            } else if (leaf instanceof ConditionalExpressionTree choice && inner != choice.getCondition()) {
                guarding(told, choice.getCondition());
            } else if (leaf instanceof ForLoopTree loop && inner == loop.getStatement()) {
                guarding(told, loop.getCondition());
            } else if (leaf instanceof BinaryTree both && inner == both.getRightOperand()) {
                guarding(told, both.getLeftOperand());
            } else if (leaf instanceof BlockTree block) {
                for (StatementTree ahead : block.getStatements().subList(0, block.getStatements().indexOf(inner))) {
                    if (ahead instanceof IfTree branch && branch.getThenStatement().toString().contains("return")) {
                        guarding(told, branch.getCondition());
                    }
                }
            }
            inner = leaf;
            outer = outer.getParentPath();
        }
        for (TreePath local : CODE.within(outer, VariableTree.class)) {
            VariableTree variable = (VariableTree) local.getLeaf();
            if (variable.getInitializer() != null && names(told.toString(), variable.getName().toString())) {
                guarding(told, variable.getInitializer());
            }
        }
        return told.toString();
    }

    private static boolean names(String told, String name) {
        return Pattern.compile("(?<![\\w.])" + Pattern.quote(name) + "(?!\\w)").matcher(told).find();
    }

    static void rule07IndexesAreLookedAt() {
        List<TreePath> all = CODE.all(ArrayAccessTree.class);
        Check.that("there are rows", !all.isEmpty());
        for (TreePath path : all) {
            ArrayAccessTree access = (ArrayAccessTree) path.getLeaf();
            Check.that(CODE.told(path) + " behind a look at its length",
                    names(guardsOf(path), access.getExpression() + ".length"));
        }
    }

    private static void divisor(TreePath path, ExpressionTree divisor) {
        boolean isNumber = divisor instanceof LiteralTree literal && ((Number) literal.getValue()).longValue() > 0;
        String name = Pattern.quote(divisor.toString());
        boolean isGuarded = Pattern.compile("\\b" + name + " (!=|>) 0\\b").matcher(guardsOf(path)).find();
        Check.that(CODE.told(path) + " not by 0", isNumber || isGuarded);
    }

    static void rule07DivisorsAreLookedAt() {
        for (TreePath path : CODE.all(BinaryTree.class)) {
            BinaryTree both = (BinaryTree) path.getLeaf();
            if (both.getKind() == Tree.Kind.DIVIDE || both.getKind() == Tree.Kind.REMAINDER) {
                divisor(path, both.getRightOperand());
            }
        }
        for (TreePath path : CODE.all(CompoundAssignmentTree.class)) {
            CompoundAssignmentTree both = (CompoundAssignmentTree) path.getLeaf();
            if (both.getKind() == Tree.Kind.DIVIDE_ASSIGNMENT || both.getKind() == Tree.Kind.REMAINDER_ASSIGNMENT) {
                divisor(path, both.getExpression());
            }
        }
    }

    private static int depth(TreePath method, int open) {
        Check.that(CODE.told(method) + " ends", open < 100);
        int deepest = 0;
        for (TreePath called : open < 100 ? CODE.ownCallsOf(method) : List.<TreePath>of()) {
            deepest = Math.max(deepest, depth(called, open + 1));
        }
        return deepest + 1;
    }

    /** Rules 8 and 11: no recursion, and at most eight calls stand open. */
    static void rule08CallsAreAtMostEightDeep() {
        for (TreePath method : CODE.all(MethodTree.class)) {
            int depth = depth(method, 0);
            Check.that(CODE.told(method) + " is " + depth + " deep", depth <= 8);
        }
    }

    /** The counter of a loop is in its condition, goes one on, and is not touched in the loop. */
    static void rule09LoopsHaveAnEnd() {
        none(WhileLoopTree.class);
        none(DoWhileLoopTree.class);
        for (TreePath path : CODE.all(ForLoopTree.class)) {
            ForLoopTree loop = (ForLoopTree) path.getLeaf();
            Check.due("steps of " + CODE.told(path), loop.getUpdate().size(), 1);
            String step = loop.getUpdate().get(0).toString().replace(";", "");
            boolean isUp = step.endsWith("++");
            Check.that(step + " is one step", isUp || step.endsWith("--"));
            String counter = step.substring(0, step.length() - 2);
            String bound = "\\b" + counter + (isUp ? " <=? " : " >=? ");
            Check.that(CODE.told(path) + " has a bound",
                    Pattern.compile(bound).matcher(loop.getCondition().toString()).find()
                            && !loop.getCondition().toString().contains("||"));
            TreePath body = new TreePath(path, loop.getStatement());
            for (TreePath set : CODE.within(body, AssignmentTree.class)) {
                Check.that(CODE.told(set) + " leaves the counter",
                        !((AssignmentTree) set.getLeaf()).getVariable().toString().equals(counter));
            }
            for (TreePath set : CODE.within(body, CompoundAssignmentTree.class)) {
                Check.that(CODE.told(set) + " leaves the counter",
                        !((CompoundAssignmentTree) set.getLeaf()).getVariable().toString().equals(counter));
            }
            for (TreePath set : CODE.within(body, UnaryTree.class)) {
                boolean isStep = set.getLeaf().getKind().toString().matches("P(OST|RE)FIX_.*");
                Check.that(CODE.told(set) + " leaves the counter",
                        !isStep || !((UnaryTree) set.getLeaf()).getExpression().toString().equals(counter));
            }
        }
    }

    static void rule11SmallMethodsAndClasses() {
        Check.that("at most twelve classes", CODE.all(ClassTree.class).size() <= 12);
        for (TreePath path : CODE.all(MethodTree.class)) {
            MethodTree method = (MethodTree) path.getLeaf();
            Check.that(CODE.told(path) + " takes at most seven", method.getParameters().size() <= 7);
            Check.that(CODE.told(path) + " has at most sixty lines", CODE.lines(method) <= 60);
        }
        for (TreePath path : CODE.all(ClassTree.class)) {
            int fields = 0;
            for (VariableTree field : Code.fields((ClassTree) path.getLeaf())) {
                fields += field.getModifiers().getFlags().toString().contains("static") ? 0 : 1;
            }
            Check.that(CODE.told(path) + " has at most twenty fields", fields <= 20);
        }
    }

    private static boolean isMadeAheadOfCalls(TreePath made) {
        TreePath method = Code.around(made, MethodTree.class);
        return method == null || Code.isConstructor((MethodTree) method.getLeaf());
    }

    /** What a call would make is counted for all calls of a run: so calls make nothing. */
    static void rule12CallsMakeNothing() {
        for (TreePath path : CODE.all(NewClassTree.class)) {
            Check.that(CODE.told(path) + " ahead of all calls", isMadeAheadOfCalls(path));
        }
        for (TreePath path : CODE.all(NewArrayTree.class)) {
            Check.that(CODE.told(path) + " ahead of all calls", isMadeAheadOfCalls(path));
        }
    }

    /** By an own method a constructor might hand out what is not made yet. */
    static void rule12ConstructorsCallNoMethods() {
        for (TreePath path : CODE.all(MethodTree.class)) {
            if (Code.isConstructor((MethodTree) path.getLeaf())) {
                Check.due("methods that a constructor calls", CODE.ownCallsOf(path).size(), 0);
            }
        }
    }

    /** Objects and rows, and their fields and elements, from one on; each is counted once. */
    private static void count(Object whole, Map<Object, Integer> counted) throws IllegalAccessException {
        if (whole == null || counted.containsKey(whole)) {
            return;
        }
        counted.put(whole, 0);
        int cells = 0;
        if (whole.getClass().isArray()) {
            cells = Array.getLength(whole);
            for (int place = 0; place < cells && !whole.getClass().getComponentType().isPrimitive(); place++) {
                count(Array.get(whole, place), counted);
            }
        } else {
            for (Field field : whole.getClass().getDeclaredFields()) {
                if (!Modifier.isStatic(field.getModifiers())) {
                    cells++;
                    field.setAccessible(true);
                    if (!field.getType().isPrimitive()) {
                        count(field.get(whole), counted);
                    }
                }
            }
        }
        counted.put(whole, cells);
    }

    /** A run has room for 600,000 objects and 7.3 million cells: one object and all its calls need few. */
    static void rule12OneObjectNeedsLittleRoom() throws IllegalAccessException {
        for (Edge.State state : Edge.State.values()) {
            Map<Object, Integer> counted = new IdentityHashMap<>();
            count(state.make(), counted);
            int cells = 0;
            for (int own : counted.values()) {
                cells += own;
            }
            Check.that(counted.size() + " objects", counted.size() <= 60);
            Check.that(cells + " cells", cells <= 1200);
        }
    }

    static void rule13TheSameCallsGiveTheSameAnswers() {
        for (Edge.State state : Edge.State.values()) {
            Edge.same(state + " made again", state::make, Every.answersOf(state::make));
        }
    }
}
