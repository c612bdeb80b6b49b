import java.lang.reflect.InvocationTargetException;
import java.lang.reflect.Method;
import java.util.ArrayList;
import java.util.Arrays;
import java.util.Comparator;
import java.util.List;

/** All promises: every call with every mixture of odd numbers, in every state, answers as the model does and never throws. */
public final class ExtremesTest {
    private static final int[] ODD = {Integer.MIN_VALUE, -1000, -101, -41, -1, 0, 1, 2, 3, 4, 5, 8, 9, 40, 41, 91, 199, 200,
        201, 255, 256, 599, 600, 601, 1199, 1200, 3999, 4000, 65536 + '+', Integer.MAX_VALUE};
    private static final long[] ODD_LONG = {0, 1, -1, 'z', '+', 'z' << 16, Long.MIN_VALUE, Long.MAX_VALUE,
        0x6161616161616161L, 0x4161616161616161L, 0x610061L, '+' + ('+' << 8)};
    private static final String[] TEXTS = {"", "a", "let x (b)\n    y do\n      'q\nr' 12\n  in of\nz -\n 7", "a\n b", "a )",
        "=".repeat(600), "()".repeat(300), "a\n".repeat(300), " ".repeat(600), "'" + "\n".repeat(598) + "'",
        "(".repeat(600), "\u00ff", "of a -\nof b"};
    /** Nothing is promised of more than 512 calls: so a new object comes ahead of that. */
    private static final int CALLS = 350;
    private static final Check check = new Check();

    private static IndentReader x;
    private static Model m;

    public static void main(String[] args) throws ReflectiveOperationException {
        Method[] methods = IndentReader.class.getDeclaredMethods();
        Arrays.sort(methods, Comparator.comparing(Method::getName));
        for (String text : TEXTS) {
            for (int readings = 0; readings < 2; readings++) {
                for (Method method : methods) {
                    if (java.lang.reflect.Modifier.isPublic(method.getModifiers())) {
                        callAll(method, text, readings);
                    }
                }
            }
        }
        check.end();
    }

    private static void renew(String text, int readings) {
        x = new IndentReader();
        m = new Model();
        for (String opener : new String[] {"do", "of", "let", "="}) {
            int kind = opener.equals("do") ? 1 : opener.equals("of") ? 3 : opener.equals("let") ? 5 : 2;
            x.opener(Run.word(opener), kind);
            m.opener(Run.word(opener), kind);
        }
        x.closer(Run.word("in"));
        m.closer(Run.word("in"));
        x.pair('(', ')');
        m.pair('(', ')');
        x.goer('-');
        m.goer('-');
        for (int i = 0; i < text.length(); i += 8) {
            long w = Run.word(text.substring(i, Math.min(text.length(), i + 8)));
            x.feed(w);
            m.feed(w);
        }
        for (int i = 0; i < readings; i++) {
            x.read();
            m.read();
        }
    }

    private static void callAll(Method method, String text, int readings) throws ReflectiveOperationException {
        Method model = Model.class.getDeclaredMethod(method.getName(), method.getParameterTypes());
        boolean changes = List.of("opener", "pair", "closer", "goer", "tab", "feed", "cut", "shift", "mend", "read")
                .contains(method.getName());
        renew(text, readings);
        int calls = 0;
        for (Object[] arguments : mixtures(method.getParameterTypes())) {
            String call = method.getName() + Arrays.toString(arguments) + " of [" + text + "] read " + readings;
            int want = (Integer) model.invoke(m, arguments);
            try {
                int got = (Integer) method.invoke(x, arguments);
                check.due(call, got, want);
            } catch (InvocationTargetException thrown) {
                check.due(call + " threw " + thrown.getCause(), 1, 0);
            }
            calls++;
            if (changes && want >= 0) {
                sameText(call);
            }
            if (changes && want >= 0 || calls == CALLS) {
                renew(text, readings);
                calls = 0;
            }
        }
    }

    private static void sameText(String call) {
        int size = m.count(4);
        check.due("bytes after " + call, x.count(4), size);
        for (int i = 0; i < 30; i++) {
            check.due("byte " + i + " after " + call, x.byteAt(i), m.byteAt(i));
            check.due("byte " + i + " from the last after " + call, x.byteAt(size - i), m.byteAt(size - i));
        }
    }

    private static List<Object[]> mixtures(Class<?>[] types) {
        List<Object[]> all = new ArrayList<>();
        all.add(new Object[types.length]);
        for (int i = 0; i < types.length; i++) {
            List<Object[]> longer = new ArrayList<>();
            for (Object[] some : all) {
                for (Object value : valuesOf(types[i])) {
                    Object[] more = some.clone();
                    more[i] = value;
                    longer.add(more);
                }
            }
            all = longer;
        }
        return all;
    }

    private static List<Object> valuesOf(Class<?> type) {
        List<Object> values = new ArrayList<>();
        if (type == boolean.class) {
            values.addAll(List.of(true, false));
        } else if (type == long.class) {
            for (long w : ODD_LONG) {
                values.add(w);
            }
        } else {
            for (int n : ODD) {
                values.add(n);
            }
        }
        return values;
    }
}
