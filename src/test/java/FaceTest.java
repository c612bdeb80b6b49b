import com.sun.source.tree.ClassTree;
import com.sun.source.tree.MethodTree;
import com.sun.source.tree.VariableTree;
import com.sun.source.util.TreePath;
import java.io.IOException;
import java.nio.charset.StandardCharsets;
import java.nio.file.Files;
import java.nio.file.Path;
import java.util.ArrayList;
import java.util.HashSet;
import java.util.List;
import java.util.Set;
import java.util.TreeSet;
import java.util.regex.Matcher;
import java.util.regex.Pattern;
import javax.lang.model.element.Modifier;

/** Holds the class to the face that the document writes out: names, parameters and constants, and no other member. */
public final class FaceTest {
    private static final Path DOCUMENT = Path.of("../shared/DOC.md");
    private static final int METHODS = 30, CONSTANTS = 5;
    private static final Check check = new Check();

    public static void main(String[] args) throws IOException {
        Set<String> wanted = faceOfDocument();
        List<String> found = new ArrayList<>();
        Set<String> open = new HashSet<>();
        Source source = new Source();
        for (TreePath path : source.paths) {
            if (isMemberOfOuter(source, path) && !isPrivate(source, path)) {
                found.add(told(source, path));
                open.add(source.elementOf(path).getSimpleName().toString());
            }
        }
        check.due("the document's face", wanted.size(), 2 + METHODS + CONSTANTS);
        check.due("the face", new TreeSet<>(found).toString(), wanted.toString());
        check.due("told once each", found.size(), wanted.size());
        namesAreNotSharedByHiddenMethods(source, open);
        constantsAsTold();
        check.end();
    }

    /** The class, its constructor, its methods and its constants, each as "public static final int NONE = -9". */
    private static Set<String> faceOfDocument() throws IOException {
        String document = Files.readString(DOCUMENT, StandardCharsets.UTF_8);
        Matcher block = Pattern.compile("## The public face\\s+```java\n(.*?)```", Pattern.DOTALL).matcher(document);
        check.due("the document has a face", block.find() ? 1 : 0, 1);
        Set<String> face = new TreeSet<>();
        for (String line : block.group(1).split("\n")) {
            String words = line.trim().replaceAll("( \\{|;)$", "");
            if (words.startsWith("public static final int ")) {
                for (String constant : words.substring("public static final int ".length()).split(", ")) {
                    face.add("public static final int " + constant);
                }
            } else if (words.startsWith("public ")) {
                face.add(words);
            }
        }
        return face;
    }

    private static boolean isMemberOfOuter(Source source, TreePath path) {
        if (path.getLeaf() instanceof ClassTree) {
            return true;
        }
        boolean member = path.getLeaf() instanceof MethodTree || path.getLeaf() instanceof VariableTree;
        return member && path.getParentPath().getLeaf() == source.classes().get(0).getLeaf();
    }

    private static boolean isPrivate(Source source, TreePath path) {
        return source.elementOf(path).getModifiers().contains(Modifier.PRIVATE);
    }

    private static String told(Source source, TreePath path) {
        StringBuilder words = new StringBuilder();
        for (Modifier modifier : source.elementOf(path).getModifiers()) {
            words.append(modifier).append(' ');
        }
        if (path.getLeaf() instanceof ClassTree inside) {
            words.append("class ").append(inside.getSimpleName());
        } else if (path.getLeaf() instanceof VariableTree constant) {
            words.append(constant.getType()).append(' ').append(constant.getName()).append(" = ").append(constant.getInitializer());
        } else if (path.getLeaf() instanceof MethodTree method) {
            boolean made = source.isConstructor(path);
            words.append(made ? "IndentReader" : method.getReturnType() + " " + method.getName());
            words.append(method.getParameters().toString().replaceAll(",(?! )", ", ").replaceAll("^", "(")).append(')');
        }
        return words.toString();
    }

    private static void namesAreNotSharedByHiddenMethods(Source source, Set<String> open) {
        for (TreePath path : source.methods()) {
            MethodTree method = (MethodTree) path.getLeaf();
            boolean shown = isMemberOfOuter(source, path) && !isPrivate(source, path);
            boolean shared = !shown && !source.isConstructor(path) && open.contains(method.getName().toString());
            check.due("name of " + method.getName() + " at line " + source.lineOf(method), shared ? 1 : 0, 0);
        }
    }

    private static void constantsAsTold() {
        check.due("UNKNOWN", IndentReader.UNKNOWN, -1);
        check.due("OUTSIDE", IndentReader.OUTSIDE, -2);
        check.due("STATE", IndentReader.STATE, -3);
        check.due("FULL", IndentReader.FULL, -4);
        check.due("NONE", IndentReader.NONE, -9);
    }
}
