import com.sun.source.tree.BinaryTree;
import com.sun.source.tree.ClassTree;
import com.sun.source.tree.DoWhileLoopTree;
import com.sun.source.tree.ExpressionTree;
import com.sun.source.tree.ForLoopTree;
import com.sun.source.tree.MethodInvocationTree;
import com.sun.source.tree.MethodTree;
import com.sun.source.tree.Tree;
import com.sun.source.tree.VariableTree;
import com.sun.source.tree.WhileLoopTree;
import com.sun.source.util.TreePath;
import java.io.IOException;
import java.util.ArrayDeque;
import java.util.Deque;
import java.util.EnumSet;
import java.util.Map;
import java.util.Set;
import javax.lang.model.element.Element;
import javax.lang.model.element.ElementKind;
import javax.lang.model.element.Modifier;
import javax.lang.model.type.TypeMirror;

/** Holds the class's file to the rules of LANGUAGE.md, as far as the compiler's view of the file shows them. */
public final class LanguageTest {
    /** Rules 2 and 6: what may not stand in the file at all. */
    private static final Set<Tree.Kind> NOT_HERE = EnumSet.of(Tree.Kind.THROW, Tree.Kind.TRY, Tree.Kind.CATCH,
            Tree.Kind.SYNCHRONIZED, Tree.Kind.ASSERT, Tree.Kind.LAMBDA_EXPRESSION, Tree.Kind.MEMBER_REFERENCE, Tree.Kind.PACKAGE,
            Tree.Kind.BINDING_PATTERN, Tree.Kind.INSTANCE_OF);
    /** Rule 4, as much of it as this class needs. */
    private static final Set<String> LIBRARY = Set.of("Arrays.fill", "System.arraycopy", "Math.min", "Math.max",
            "String.indexOf", "Object.<init>");
    /** Rule 3, likewise; own classes come on top. */
    private static final Set<String> TYPES = Set.of("int", "long", "boolean", "byte", "int[]", "long[]", "byte[]", "boolean[]",
            "java.lang.String", "void");
    private static final Set<String> CONSTANTS = Set.of("int", "long", "boolean", "char", "java.lang.String");
    private static final int MOST_LINES = 60, MOST_PARAMETERS = 7, MOST_FIELDS = 20, MOST_CLASSES = 12, MOST_DEEP = 8;

    private static final Check check = new Check();
    private static Source source;

    public static void main(String[] args) throws IOException {
        source = new Source();
        check.due("the file is not empty", source.methods().size() > 30 ? 1 : 0, 1);
        for (TreePath path : source.paths) {
            nothingForbidden(path);
            typeIsAllowed(path);
            libraryIsListed(path);
            nothingIsMadeByCalls(path);
            loopHasAnEnd(path);
            textsAreNotJoinedOrCompared(path);
        }
        source.classes().forEach(LanguageTest::classIsNestedAndSmall);
        source.methods().forEach(LanguageTest::methodIsSmall);
        callsStayLow();
        check.end();
    }

    private static String at(TreePath path) {
        return "line " + source.lineOf(path.getLeaf()) + ": ";
    }

    private static void hold(TreePath path, String rule, boolean kept) {
        check.due(at(path) + rule, kept ? 1 : 0, 1);
    }

    private static void nothingForbidden(TreePath path) {
        Tree.Kind kind = path.getLeaf().getKind();
        hold(path, "rules 2 and 6, no " + kind, !NOT_HERE.contains(kind));
        hold(path, "rule 5, no initialiser block", !Source.isInitialiserBlock(path));
    }

    private static boolean isAllowed(TypeMirror type) {
        String name = type.toString();
        return TYPES.contains(name) || name.matches("IndentReader(\\.[A-Z][A-Za-z]*)?");
    }

    private static void typeIsAllowed(TreePath path) {
        if (path.getLeaf() instanceof VariableTree variable) {
            hold(path, "rule 3, the type of " + variable.getName(), isAllowed(source.typeOf(path)));
            staticIsConstant(path, variable);
        } else if (path.getLeaf() instanceof MethodTree method && method.getReturnType() != null) {
            TypeMirror answer = source.typeOf(new TreePath(path, method.getReturnType()));
            hold(path, "rule 3, the type of " + method.getName(), isAllowed(answer));
        }
    }

    private static void staticIsConstant(TreePath path, VariableTree variable) {
        Set<Modifier> modifiers = source.elementOf(path).getModifiers();
        if (modifiers.contains(Modifier.STATIC)) {
            boolean constant = modifiers.contains(Modifier.FINAL) && CONSTANTS.contains(source.typeOf(path).toString());
            hold(path, "rule 5, the constant " + variable.getName(), constant && variable.getInitializer() != null);
        }
    }

    private static void libraryIsListed(TreePath path) {
        if (path.getLeaf() instanceof MethodInvocationTree) {
            Element called = source.elementOf(path);
            String name = Source.nameOf(called);
            hold(path, "rule 4, the call of " + name, Source.isOwn(called) || LIBRARY.contains(name));
        }
    }

    /** Rule 12 allows more: but without an object made by a call the room can't run out, whatever the run. */
    private static void nothingIsMadeByCalls(TreePath path) {
        Tree.Kind kind = path.getLeaf().getKind();
        if (kind == Tree.Kind.NEW_CLASS || kind == Tree.Kind.NEW_ARRAY) {
            hold(path, "rule 12, what is made", source.methodAround(path).getLeaf() instanceof ClassTree);
        }
    }

    /** Each end can be seen where a counter or a chain is compared with something: that it is the right one can't. */
    private static void loopHasAnEnd(TreePath path) {
        ExpressionTree condition = null;
        if (path.getLeaf() instanceof ForLoopTree loop) {
            condition = loop.getCondition();
            hold(path, "rule 9, a counter that goes on", loop.getUpdate().size() == 1);
        } else if (path.getLeaf() instanceof WhileLoopTree loop) {
            condition = loop.getCondition();
        } else if (path.getLeaf() instanceof DoWhileLoopTree loop) {
            condition = loop.getCondition();
        } else {
            return;
        }
        hold(path, "rule 9, the end of a loop", condition != null && condition.toString().matches(".*[<>].*"));
    }

    private static void textsAreNotJoinedOrCompared(TreePath path) {
        if (path.getLeaf() instanceof BinaryTree binary) {
            boolean texts = isText(new TreePath(path, binary.getLeftOperand())) || isText(new TreePath(path, binary.getRightOperand()));
            hold(path, "rules 6 and 10, " + binary, !texts);
        }
    }

    private static boolean isText(TreePath path) {
        return source.typeOf(path).toString().equals("java.lang.String");
    }

    private static void classIsNestedAndSmall(TreePath path) {
        Element element = source.elementOf(path);
        boolean outer = path.getParentPath().getLeaf() == source.unit;
        hold(path, "rule 2, a class inside is static", outer || element.getModifiers().contains(Modifier.STATIC));
        hold(path, "rule 2, a class inside is a member", outer || path.getParentPath().getLeaf() instanceof ClassTree);
        hold(path, "rule 1, a class inside is not seen", outer || element.getModifiers().contains(Modifier.PRIVATE));
        long fields = element.getEnclosedElements().stream()
                .filter(inside -> inside.getKind() == ElementKind.FIELD && !inside.getModifiers().contains(Modifier.STATIC)).count();
        hold(path, "rule 11, " + fields + " fields", fields <= MOST_FIELDS);
        hold(path, "rule 11, classes", source.classes().size() <= MOST_CLASSES);
    }

    private static void methodIsSmall(TreePath path) {
        MethodTree method = (MethodTree) path.getLeaf();
        hold(path, "rule 11, the lines of " + method.getName(), source.linesOf(method) <= MOST_LINES);
        hold(path, "rule 11, the parameters of " + method.getName(), method.getParameters().size() <= MOST_PARAMETERS);
    }

    private static void callsStayLow() {
        Map<String, Set<String>> calls = source.calls();
        for (String method : calls.keySet()) {
            if (method.startsWith("IndentReader.")) {
                Deque<String> open = new ArrayDeque<>();
                int deepest = deepest(method, calls, open);
                check.due("rule 11, calls below " + method + ", " + deepest + " deep", deepest <= MOST_DEEP ? 1 : 0, 1);
            }
        }
    }

    /** How many own methods stand open at once. */
    private static int deepest(String method, Map<String, Set<String>> calls, Deque<String> open) {
        check.due("rule 8, " + method + " below " + open, open.contains(method) ? 1 : 0, 0);
        if (open.contains(method)) {
            return open.size();
        }
        open.push(method);
        int deepest = LIBRARY.contains(method) ? open.size() - 1 : open.size();
        for (String called : calls.getOrDefault(method, Set.of())) {
            deepest = Math.max(deepest, deepest(called, calls, open));
        }
        open.pop();
        return deepest;
    }
}
