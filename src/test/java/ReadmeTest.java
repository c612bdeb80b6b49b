import java.io.IOException;
import java.io.StringWriter;
import java.lang.reflect.InvocationTargetException;
import java.net.URL;
import java.net.URLClassLoader;
import java.nio.charset.StandardCharsets;
import java.nio.file.Files;
import java.nio.file.Path;
import java.util.List;
import java.util.regex.Matcher;
import java.util.regex.Pattern;
import javax.tools.JavaCompiler;
import javax.tools.StandardJavaFileManager;
import javax.tools.ToolProvider;

/** The use that README.md shows is one that can be compiled, and answers what it says. */
public final class ReadmeTest {
    private static final Check check = new Check();

    public static void main(String[] args) throws IOException, ReflectiveOperationException {
        String readme = Files.readString(Path.of("README.md"), StandardCharsets.UTF_8);
        Matcher shown = Pattern.compile("```java\n(.*?)```", Pattern.DOTALL).matcher(readme);
        check.due("README.md shows a use", shown.find() ? 1 : 0, 1);
        Path folder = Files.createTempDirectory("readme");
        try {
            check.due("tokens, kind, bytes, first, page", answers(shown.group(1), folder), "3 1 11 97 af do { b }");
        } finally {
            empty(folder);
        }
        check.end();
    }

    private static String answers(String use, Path folder) throws IOException, ReflectiveOperationException {
        Path file = folder.resolve("Use.java");
        Files.writeString(file, "public class Use { public static String run() {\n" + use
                + "StringBuilder s = new StringBuilder().append(tokens).append(' ').append(kind).append(' ').append(bytes)"
                + ".append(' ').append(first).append(' ');\n"
                + "for (int i = 0; i < bytes; i++) { s.append((char) x.written(i)); }\nreturn s.toString(); } }\n");
        JavaCompiler compiler = ToolProvider.getSystemJavaCompiler();
        StringWriter faults = new StringWriter();
        List<String> options = List.of("-proc:none", "-cp", System.getProperty("java.class.path"), "-d", folder.toString());
        try (StandardJavaFileManager files = compiler.getStandardFileManager(null, null, null)) {
            if (!compiler.getTask(faults, files, null, options, null, files.getJavaFileObjects(file)).call()) {
                return faults.toString();
            }
        }
        try (URLClassLoader loader = new URLClassLoader(new URL[] {folder.toUri().toURL()})) {
            return (String) loader.loadClass("Use").getMethod("run").invoke(null);
        } catch (InvocationTargetException thrown) {
            return thrown.getCause().toString();
        }
    }

    private static void empty(Path folder) throws IOException {
        for (String name : new String[] {"Use.java", "Use.class"}) {
            Files.deleteIfExists(folder.resolve(name));
        }
        Files.delete(folder);
    }
}
