import java.io.IOException;
import java.lang.reflect.Constructor;
import java.lang.reflect.Field;
import java.lang.reflect.Method;
import java.lang.reflect.Modifier;
import java.nio.charset.StandardCharsets;
import java.nio.file.Files;
import java.nio.file.Path;
import java.util.Arrays;
import java.util.Set;
import java.util.TreeSet;
import java.util.regex.Matcher;
import java.util.regex.Pattern;

/** The public face, and those rules of LANGUAGE.md that can be seen from outside or word by word. */
public final class FaceTest {
    private static final String[] METHODS = {"opener(long,int)", "pair(int,int)", "closer(long)", "goer(int)", "tab(int)",
        "feed(long)", "cut(int)", "shift(int,int)", "keep()", "byteAt(int)", "read()", "fault(int)", "count(int)",
        "token(int,int)", "block(int,int)", "item(int,int)", "part(int,int)", "itemAs(int,int,int)",
        "reach(boolean,int,int)", "around(int,int)", "plain()", "write(int)", "written(int)", "same()", "parts()", "mend()",
        "mended(int)", "marks(int)", "deepen()", "markAt(int)"};
    private static final String[] FIELDS = {"UNKNOWN", "OUTSIDE", "STATE", "FULL", "NONE"};
    private static final String[] NOT_HERE = {"\\bthrow\\b", "\\btry\\b", "\\bcatch\\b", "\\bsynchronized\\b", "\\bassert\\b",
        "::", "\\bhashCode\\b", "Exact\\b", "\\bSystem\\.(?!arraycopy)", "\\bThread\\b", "\\bprotected\\b", "\\bpackage\\b",
        "\\bstatic\\s*\\{", "(?m)^(?!.*\\b(case|default)\\b).*->"};
    /** The rules say 'some sixty' and the like: a little above is fine. */
    private static final int MOST_LINES = 66, MOST_PARAMETERS = 7, MOST_FIELDS = 22, MOST_CLASSES = 13;
    private static final Check check = new Check();

    public static void main(String[] args) throws IOException {
        face();
        classesInside();
        words();
        check.end();
    }

    private static void face() {
        Class<?> c = IndentReader.class;
        check.due("public and final", c.getModifiers(), Modifier.PUBLIC | Modifier.FINAL);
        Set<String> seen = new TreeSet<>();
        for (Method method : c.getDeclaredMethods()) {
            if (!Modifier.isPrivate(method.getModifiers())) {
                String types = String.join(",", Arrays.stream(method.getParameterTypes()).map(Class::getName).toList());
                seen.add(method.getName() + "(" + types + ")");
                check.due(method.getName() + " is public alone", method.getModifiers(), Modifier.PUBLIC);
                check.due(method.getName() + " answers int", method.getReturnType().getName(), "int");
            }
        }
        check.due("methods", seen.toString(), new TreeSet<>(Arrays.asList(METHODS)).toString());
        seen.clear();
        for (Field field : c.getDeclaredFields()) {
            if (!Modifier.isPrivate(field.getModifiers())) {
                seen.add(field.getName());
            }
        }
        check.due("constants", seen.toString(), new TreeSet<>(Arrays.asList(FIELDS)).toString());
        Constructor<?>[] made = c.getDeclaredConstructors();
        check.due("one constructor", made.length, 1);
        check.due("without a parameter", made[0].getParameterCount(), 0);
        check.due("public", made[0].getModifiers(), Modifier.PUBLIC);
    }

    private static void classesInside() {
        Class<?>[] inside = IndentReader.class.getDeclaredClasses();
        check.due("classes inside", inside.length < MOST_CLASSES ? 1 : 0, 1);
        Set<String> open = new TreeSet<>();
        for (Method method : IndentReader.class.getDeclaredMethods()) {
            if (Modifier.isPublic(method.getModifiers())) {
                open.add(method.getName());
            }
        }
        for (Method method : IndentReader.class.getDeclaredMethods()) {
            boolean hidden = Modifier.isPrivate(method.getModifiers());
            check.due("name of " + method, hidden && open.contains(method.getName()) ? 1 : 0, 0);
        }
        for (Class<?> c : inside) {
            check.due(c.getName() + " is static", Modifier.isStatic(c.getModifiers()) ? 1 : 0, 1);
            int fields = 0;
            for (Field field : c.getDeclaredFields()) {
                fields += Modifier.isStatic(field.getModifiers()) ? 0 : 1;
            }
            check.due(c.getName() + " has few fields", fields <= MOST_FIELDS ? 1 : 0, 1);
            for (Method method : c.getDeclaredMethods()) {
                boolean hidden = Modifier.isPrivate(method.getModifiers());
                check.due("name of " + method, hidden && open.contains(method.getName()) ? 1 : 0, 0);
                check.due("parameters of " + method, method.getParameterCount() <= MOST_PARAMETERS ? 1 : 0, 1);
            }
        }
    }

    private static void words() throws IOException {
        Path file = Path.of("src/main/java/IndentReader.java");
        String source = Files.readString(file, StandardCharsets.ISO_8859_1);
        String code = source.replaceAll("(?s)/\\*.*?\\*/", "").replaceAll("//[^\n]*", "");
        for (String word : NOT_HERE) {
            Matcher m = Pattern.compile(word).matcher(code);
            check.due("found " + word, m.find() ? 1 : 0, 0);
        }
        Matcher imports = Pattern.compile("(?m)^import (.*);$").matcher(code);
        while (imports.find()) {
            boolean listed = imports.group(1).matches("java\\.util\\.(Arrays|ArrayList|List|Iterator)");
            check.due("import " + imports.group(1), listed ? 1 : 0, 1);
        }
        Matcher method = Pattern.compile("(?m)^( {4}| {8})[a-z][^;=]*\\) \\{\n((?!\\1\\}).*\n)*\\1\\}\n").matcher(code);
        while (method.find()) {
            check.due("length of\n" + method.group(), method.group().lines().count() <= MOST_LINES ? 1 : 0, 1);
        }
    }
}
