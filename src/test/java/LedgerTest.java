import java.io.File;
import java.io.IOException;
import java.lang.reflect.Method;
import java.lang.reflect.Modifier;
import java.nio.charset.StandardCharsets;
import java.nio.file.Files;
import java.nio.file.Path;
import java.util.Arrays;
import java.util.Map;
import java.util.TreeMap;
import java.util.regex.Matcher;
import java.util.regex.Pattern;

/** Holds the tests against the document: each word of 'Terms' and of the promises is one that a test says it tests. */
public final class LedgerTest {
    private static final Path DOCUMENT = Path.of("../shared/DOC.md");
    private static final int PROMISES = 31;
    private static final Check check = new Check();
    private static final Map<Integer, String> sections = new TreeMap<>();
    private static final Map<Integer, boolean[]> quoted = new TreeMap<>();

    public static void main(String[] args) throws IOException, ClassNotFoundException {
        cutDocument(Files.readString(DOCUMENT, StandardCharsets.UTF_8));
        File[] files = new File("src/test/java").listFiles((dir, name) -> name.endsWith("Test.java"));
        Arrays.sort(files);
        int tests = 0;
        for (File file : files) {
            for (Method method : Class.forName(file.getName().replace(".java", "")).getDeclaredMethods()) {
                if (method.isAnnotationPresent(Says.class)) {
                    tests++;
                    enter(method);
                }
            }
        }
        sections.forEach(LedgerTest::everyWordIsQuoted);
        System.out.println(tests + " tests of sentences");
        check.end();
    }

    private static String onOneLine(String text) {
        return text.replaceAll("```(text)?|====", " ").replaceAll("\\s+", " ").trim();
    }

    private static void cutDocument(String document) {
        int terms = document.indexOf("## Terms");
        int calls = document.indexOf("Ahead of the calls", terms);
        check.due("the document has its terms", terms >= 0 && calls > terms ? 1 : 0, 1);
        sections.put(0, onOneLine(document.substring(terms + "## Terms".length(), calls)));
        Matcher m = Pattern.compile("## Promise (\\d+): [^\n]*\n+`[^`]*`:((?:(?!\n## ).)*)", Pattern.DOTALL).matcher(document);
        while (m.find()) {
            sections.put(Integer.parseInt(m.group(1)), onOneLine(m.group(2)));
        }
        check.due("terms and promises", sections.size(), PROMISES + 1);
        sections.forEach((number, words) -> quoted.put(number, new boolean[words.length()]));
    }

    private static void enter(Method method) {
        Says says = method.getAnnotation(Says.class);
        check.due(method + " can be run", Modifier.isStatic(method.getModifiers()) && method.getParameterCount() == 0 ? 1 : 0, 1);
        String section = sections.get(says.promise());
        check.due(method + " names a promise", section == null ? 0 : 1, 1);
        for (String quote : says.value()) {
            String words = onOneLine(quote);
            int at = section == null ? -1 : section.indexOf(words);
            check.due(method + " quotes what promise " + says.promise() + " says: " + quote, at >= 0 ? 1 : 0, 1);
            for (; at >= 0; at = section.indexOf(words, at + 1)) {
                Arrays.fill(quoted.get(says.promise()), at, at + words.length(), true);
            }
        }
    }

    private static void everyWordIsQuoted(int number, String section) {
        boolean[] marked = quoted.get(number);
        StringBuilder missing = new StringBuilder();
        for (int i = 0; i < section.length(); i++) {
            if (!marked[i] && section.charAt(i) != ' ') {
                missing.append(section.charAt(i));
            } else if (missing.length() > 0 && missing.charAt(missing.length() - 1) != ' ') {
                missing.append(' ');
            }
        }
        check.due("words of " + (number == 0 ? "Terms" : "promise " + number) + " without a test", missing.toString().trim(), "");
    }
}
