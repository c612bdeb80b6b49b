import java.lang.reflect.InvocationTargetException;
import java.lang.reflect.Method;
import java.util.ArrayList;
import java.util.Arrays;
import java.util.Comparator;
import java.util.List;
import java.util.function.Supplier;
import java.util.function.ToIntFunction;

/** Runs the tests of a class, counts and prints answers that are not the ones that are due. */
final class Check {
    private String test = "";
    private int wrong;
    private int asked;

    /** Runs every test that Says something, then ends. */
    void runAll(Class<?> tests) {
        List<Method> all = new ArrayList<>();
        for (Method method : tests.getDeclaredMethods()) {
            if (method.isAnnotationPresent(Says.class)) {
                all.add(method);
            }
        }
        all.sort(Comparator.comparing(Method::getName));
        for (Method method : all) {
            int promise = method.getAnnotation(Says.class).promise();
            test = (promise == 0 ? "Terms" : "promise " + promise) + ", " + method.getName() + ": ";
            runOne(method);
        }
        test = "";
        System.out.println(all.size() + " tests");
        due("a class of tests has tests", all.isEmpty() ? 0 : 1, 1);
        end();
    }

    private void runOne(Method method) {
        int before = asked;
        try {
            method.setAccessible(true);
            method.invoke(null);
        } catch (InvocationTargetException thrown) {
            wrong++;
            System.out.println(test + "threw " + thrown.getCause());
        } catch (IllegalAccessException closed) {
            wrong++;
            System.out.println(test + "cannot be called: " + closed);
        }
        due("a test asks", asked > before ? 1 : 0, 1);
    }

    void due(String what, long got, long want) {
        asked++;
        if (got != want) {
            wrong++;
            System.out.println(test + what + " answered " + got + ", due is " + want);
        }
    }

    void due(String what, String got, String want) {
        asked++;
        if (!got.equals(want)) {
            wrong++;
            System.out.println(test + what + " answered [" + got + "], due is [" + want + "]");
        }
    }

    /** Ends the test: with exit code 1, if an answer was wrong. */
    void end() {
        System.out.println(asked + " answers, " + wrong + " of them wrong");
        if (wrong != 0) {
            System.exit(1);
        }
    }

    /** The tree of a text by the book of most tests, in the plain form, or "kind@place" of its fault. */
    void tree(String text, String want) {
        due("tree of [" + text + "]", Run.withText(text).tree(), want);
    }

    /** What a call answers, and that it changes nothing: whatever is asked later is answered as if it had not been. */
    void refused(String what, Supplier<Run> made, ToIntFunction<Run> call, int want) {
        Run touched = made.get();
        due(what, call.applyAsInt(touched), want);
        due(what + " changes nothing:", probe(touched), probe(made.get()));
    }

    /**
     * Answers to some 200 calls: of all that can be asked first, then of acts that show what cannot be asked.
     * What a refused act of the book would have told shows, if it was one of the words and marks that are told here.
     */
    static String probe(Run x) {
        List<Integer> answers = new ArrayList<>();
        ask(x, answers);
        answers.addAll(Arrays.asList(x.mend(), x.mended(0), x.mended(1), x.deepen(), x.markAt(0)));
        answers.addAll(Arrays.asList(x.read(), x.fault(0), x.fault(1), x.fault(2), x.fault(3), x.count(0), x.count(1),
                x.count(2), x.same(), x.parts(), x.plain()));
        for (int i = 0; i < 20; i++) {
            answers.add(x.written(i));
        }
        answers.addAll(Arrays.asList(x.tab(0), x.opener(Run.word("zz"), 1), x.pair('^', '_'), x.closer(Run.word("yy")),
                x.goer('|'), x.feed('q'), x.cut(0), x.keep()));
        return answers.toString();
    }

    private static void ask(Run x, List<Integer> answers) {
        for (int what = 0; what < 5; what++) {
            answers.addAll(Arrays.asList(x.count(what), x.fault(what), x.mended(what)));
        }
        for (int i : new int[] {0, 1, 2, 9, 199}) {
            answers.add(x.markAt(i));
        }
        for (int i = 0; i < 30; i++) {
            answers.addAll(Arrays.asList(x.written(i), x.byteAt(i)));
        }
        answers.addAll(Arrays.asList(x.byteAt(598), x.byteAt(599), x.written(3998), x.written(3999)));
        for (int k = 0; k < 3; k++) {
            for (int what = 0; what < 8; what++) {
                answers.addAll(Arrays.asList(x.token(k, what), x.block(k, what)));
            }
        }
        answers.addAll(Arrays.asList(x.item(0, 3), x.part(0, 0), x.reach(true, 0, 3), x.around(0, 0)));
        answers.addAll(Arrays.asList(x.same(), x.parts()));
    }

    /** The whole of a long page, each piece of it from a new run, since one run has not calls enough. */
    static String longPage(Supplier<Run> made, int size) {
        StringBuilder s = new StringBuilder();
        for (int from = 0; from < size; from += 300) {
            s.append(made.get().pageFrom(from, Math.min(size, from + 300)));
        }
        return s.toString();
    }

    /** The whole of a long text, likewise. */
    static String longText(Supplier<Run> made) {
        StringBuilder s = new StringBuilder();
        int size = made.get().count(4);
        for (int from = 0; from < size; from += 300) {
            s.append(made.get().textFrom(from, Math.min(size, from + 300)));
        }
        return s.toString();
    }
}
