import java.util.Random;

/** All promises: long runs of calls, by chance but always the same ones, held against the model. */
public final class ModelTest {
    private static final int RUNS = 1500;
    /** As many calls as one act makes at most, but for its loops, which end ahead of that. */
    private static final int CALLS_OF_AN_ACT = 60;
    private static final String[] TOKENS = {"a", "b", "if", "do", ":", "of", "let", "hang", "=", "in", "(", ")", "[", "]",
        "-", "+", "7", "'q'", "'x\n y'", "# note", "a", "b", "c", ";"};
    private static final Check check = new Check();
    private static final int[] met = new int[17];

    private Random chance;
    private Run x;
    private Model m;
    private StringBuilder told;
    private boolean wrong;

    public static void main(String[] args) {
        int most = args.length > 0 ? Integer.parseInt(args[0]) : RUNS;
        for (int run = 0; run < most; run++) {
            if (new ModelTest().runOf(run)) {
                check.due("run " + run + " goes wrong", 1, 0);
                break;
            }
        }
        String[] what = {"good", "byte", "tab", "wanted", "in", "close", "open", "mended", "no mend", "written anew",
            "anew: state", "anew: full", "same", "other", "parted", "texts full", "above 40 tokens"};
        for (int i = 0; i < what.length && most >= RUNS; i++) {
            System.out.println(what[i] + ": " + met[i]);
            check.due("met too seldom: " + what[i] + " " + met[i] + ":", met[i] > 20 ? 1 : 0, 1);
        }
        check.end();
    }

    private boolean runOf(int seed) {
        chance = new Random(seed);
        x = new Run();
        m = new Model();
        told = new StringBuilder();
        tellBook();
        while (!spent()) {
            act();
        }
        if (wrong) {
            System.out.println(told);
        }
        return wrong;
    }

    /** Nothing is promised of later calls. */
    private boolean spent() {
        return wrong || x.callsLeft() < CALLS_OF_AN_ACT;
    }

    private int below(int n) {
        return chance.nextInt(n);
    }

    private int due(String call, int got, int want) {
        told.append(call).append(" -> ").append(got).append('\n');
        if (got != want) {
            told.append("due is ").append(want).append('\n');
            wrong = true;
        }
        return got;
    }

    private void opener(long w, int kind) {
        due("opener(" + w + ", " + kind + ")", x.opener(w, kind), m.opener(w, kind));
    }

    private void pair(int a, int b) {
        due("pair(" + a + ", " + b + ")", x.pair(a, b), m.pair(a, b));
    }

    private void closer(long w) {
        due("closer(" + w + ")", x.closer(w), m.closer(w));
    }

    private void goer(int mark) {
        due("goer(" + mark + ")", x.goer(mark), m.goer(mark));
    }

    private void tab(int n) {
        due("tab(" + n + ")", x.tab(n), m.tab(n));
    }

    private void tellBook() {
        boolean soft = below(3) == 0;
        int[] kinds = {1, 2, 3, 5};
        opener(Run.word("do"), soft ? 2 : 1);
        opener(Run.word(":"), kinds[below(4)]);
        opener(Run.word("of"), 3);
        opener(Run.word("let"), 5);
        opener(Run.word("hang"), 2);
        opener(Run.word("="), kinds[below(4)]);
        closer(Run.word("in"));
        pair('(', ')');
        if (below(2) == 0) {
            pair('[', ']');
        }
        goer('-');
        if (below(2) == 0) {
            tab(below(9));
        }
    }

    private void feed(String text) {
        for (int i = 0; i < text.length() && !spent(); i += 8) {
            long w = Run.word(text.substring(i, Math.min(text.length(), i + 8)));
            int got = due("feed(" + w + ")", x.feed(w), m.feed(w));
            met[15] += got == IndentReader.FULL ? 1 : 0;
        }
    }

    private void cut(int n) {
        due("cut(" + n + ")", x.cut(n), m.cut(n));
    }

    /** Lines that mostly stand where the ones ahead of them let them stand. */
    private String newText(int lines) {
        StringBuilder s = new StringBuilder();
        int[] stands = new int[100];
        int depth = 0;
        boolean deeper = false;
        boolean goesOn = false;
        for (int line = 0; line < lines; line++) {
            if (deeper && depth < 98) {
                stands[depth + 1] = stands[depth] + 1 + below(4);
                depth++;
            } else if (below(3) == 0) {
                depth = below(depth + 1);
            }
            int stand = Math.max(0, goesOn ? below(4) : stands[depth] + (below(12) == 0 ? below(5) - 2 : 0));
            s.append(below(30) == 0 ? "\t" : " ".repeat(stand));
            deeper = false;
            int tokens = below(12) == 0 ? 0 : 1 + below(4);
            for (int t = 0; t < tokens; t++) {
                String token = TOKENS[below(TOKENS.length)];
                token = goesOn && t == 0 && below(2) == 0 ? "of" : token;
                goesOn = token.equals("-");
                boolean opens = ":=".contains(token) || token.equals("do");
                if (opens && t < tokens - 1 || "()[]".contains(token) && below(2) == 0) {
                    token = token.equals("(") && below(2) == 0 ? "(a)" : "a";
                    opens = false;
                }
                s.append(t == 0 ? "" : below(6) == 0 ? "\t" : " ").append(token);
                deeper = opens || "oflethang".contains(token) && token.length() > 1 && t == tokens - 1;
            }
            s.append(below(15) == 0 ? " " : "").append('\n');
        }
        if (below(2) == 0 && s.length() > 0) {
            s.setLength(s.length() - 1);
        }
        if (below(40) == 0) {
            s.append("{");
        }
        String all = s.toString();
        return below(8) != 0 ? all.replace('\t', ' ') : all;
    }

    /** Many tokens in few bytes: deep piles, and pages that cannot hold them. */
    private String denseText() {
        StringBuilder s = new StringBuilder("a");
        String signs = below(2) == 0 ? "=:=:ab" : "=a;:(7)";
        int bytes = 1 + below(620);
        for (int i = 0; i < bytes; i++) {
            s.append(signs.charAt(below(signs.length())));
        }
        return s.toString().replaceAll("([a-z]{8})", "$1 ").replaceAll("([0-9]{8})", "$1 ");
    }

    /** Lines that go on by goers and quotes, so that tokens stand left of their blocks. */
    private String looseText() {
        String[] pieces = {"of a -\n", "of", " b", " =", " -\n", "let x -\nlet", "in ", " '\n'", "\n", " hang", " c", " "};
        StringBuilder s = new StringBuilder("a of ");
        int most = 2 + below(12);
        for (int i = 0; i < most; i++) {
            s.append(pieces[below(pieces.length)]);
        }
        return s.toString();
    }

    private void renew() {
        cut(0);
        switch (below(12)) {
            case 0: feed(denseText()); break;
            case 1: feed(looseText()); break;
            default: feed(newText(below(6) == 0 ? below(60) : 1 + below(8))); break;
        }
        if (below(10) != 0) {
            readNow();
        }
    }

    private void readNow() {
        int got = due("read()", x.read(), m.read());
        met[got >= 0 ? 0 : m.fault(0)]++;
        met[16] += got > 40 ? 1 : 0;
        for (int what = -1; what < 5; what++) {
            due("fault(" + what + ")", x.fault(what), m.fault(what));
        }
        for (int what = -1; what < 6; what++) {
            due("count(" + what + ")", x.count(what), m.count(what));
        }
        if (got >= 0 && below(8) == 0) {
            askAll();
        }
    }

    private void askAll() {
        for (int k = -1; k <= m.count(0) && !spent(); k++) {
            for (int what = -1; what < 9; what++) {
                due("token(" + k + ", " + what + ")", x.token(k, what), m.token(k, what));
            }
        }
        for (int k = -1; k <= m.count(1) && !spent(); k += 1 + below(3)) {
            for (int what = -1; what < 9; what++) {
                due("block(" + k + ", " + what + ")", x.block(k, what), m.block(k, what));
            }
        }
        for (int k = -1; k <= m.count(2) && !spent(); k += 1 + below(3)) {
            for (int what = -1; what < 6; what++) {
                due("item(" + k + ", " + what + ")", x.item(k, what), m.item(k, what));
            }
            for (int i = -1; i < 8; i++) {
                due("part(" + k + ", " + i + ")", x.part(k, i), m.part(k, i));
            }
        }
    }

    /** Places at and beyond both ends, and some in between. */
    private int[] placesOf(int size, int most) {
        int[] places = {-1, 0, size - 2, size - 1, size, most - 1, most, 0, 0, 0, 0, 0, 0, 0, 0};
        for (int i = 7; i < places.length; i++) {
            places[i] = below(size + 1);
        }
        return places;
    }

    private void page() {
        int size = 0;
        while (m.written(size) != IndentReader.NONE) {
            size++;
        }
        for (int i : placesOf(size, 4000)) {
            due("written(" + i + ")", x.written(i), m.written(i));
        }
    }

    private void textNow() {
        for (int i : placesOf(m.count(4), 600)) {
            due("byteAt(" + i + ")", x.byteAt(i), m.byteAt(i));
        }
    }

    private int some(int what) {
        int most = m.count(what);
        return most < 0 ? below(4) : below(most + 3) - 1;
    }

    private void mend() {
        // The model tries every shift by a whole new reading: long texts are dear.
        if (m.count(4) > 120 && below(25) != 0) {
            return;
        }
        int got = due("mend()", x.mend(), m.mend());
        met[7] += got == 1 ? 1 : 0;
        met[8] += got == 0 ? 1 : 0;
        for (int what = -1; what < 3; what++) {
            due("mended(" + what + ")", x.mended(what), m.mended(what));
        }
        textNow();
    }

    private void act() {
        switch (below(32)) {
            case 0: case 1: case 2: renew(); break;
            case 3: readNow(); break;
            case 4: rareBook(); break;
            case 5: {
                int line = some(3);
                int by = below(20) == 0 ? below(100) - 50 : below(9) - 4;
                due("shift(" + line + ", " + by + ")", x.shift(line, by), m.shift(line, by));
                textNow();
                break;
            }
            case 6: cut(some(4)); break;
            case 7: due("keep()", x.keep(), m.keep()); break;
            case 8: case 9: {
                due("plain()", x.plain(), m.plain());
                page();
                break;
            }
            case 10: case 11: {
                int n = below(10);
                int got = due("write(" + n + ")", x.write(n), m.write(n));
                boolean good = m.count(0) >= 0;
                met[9] += got > 0 ? 1 : 0;
                met[10] += good && got == IndentReader.STATE ? 1 : 0;
                met[11] += got == IndentReader.FULL ? 1 : 0;
                page();
                break;
            }
            case 12: case 13: case 14: mend(); break;
            case 15: {
                int got = due("same()", x.same(), m.same());
                met[12] += got == 1 ? 1 : 0;
                met[13] += got == 0 ? 1 : 0;
                break;
            }
            case 16: {
                int got = due("parts()", x.parts(), m.parts());
                met[14] += got > 0 ? 1 : 0;
                break;
            }
            case 17: {
                int n = below(8) == 0 ? below(260) - 30 : below(40);
                due("marks(" + n + ")", x.marks(n), m.marks(n));
                break;
            }
            case 18: {
                due("deepen()", x.deepen(), m.deepen());
                for (int i : placesOf(Math.max(0, m.count(0)), 200)) {
                    due("markAt(" + i + ")", x.markAt(i), m.markAt(i));
                }
                break;
            }
            case 19: nearText(); break;
            default: ask(); break;
        }
    }

    /** The text that is kept and the one at hand differ by little. */
    private void nearText() {
        due("keep()", x.keep(), m.keep());
        if (below(2) == 0) {
            int line = some(3);
            int by = below(3) - 1;
            due("shift(" + line + ", " + by + ")", x.shift(line, by), m.shift(line, by));
        } else {
            feed(below(2) == 0 ? " a" : "\na");
        }
        readNow();
        due("same()", x.same(), m.same());
        due("parts()", x.parts(), m.parts());
    }

    private void rareBook() {
        if (below(4) != 0) {
            readNow();
            return;
        }
        String marks = "!+*,.a{";
        int mark = marks.charAt(below(marks.length()));
        switch (below(5)) {
            case 0: opener(below(2) == 0 ? mark : 'a' + below(6), below(7)); break;
            case 1: pair(mark, marks.charAt(below(marks.length()))); break;
            case 2: closer(Run.word(TOKENS[below(TOKENS.length)])); break;
            case 3: goer(mark); break;
            default: tab(below(11) - 1); break;
        }
    }

    private void ask() {
        int b = some(1);
        int i = some(2);
        int t = some(0);
        int what = below(10) - 1;
        boolean block = below(2) == 0;
        switch (below(6)) {
            case 0: due("token(" + t + ", " + what + ")", x.token(t, what), m.token(t, what)); break;
            case 1: due("block(" + b + ", " + what + ")", x.block(b, what), m.block(b, what)); break;
            case 2: due("item(" + i + ", " + what + ")", x.item(i, what), m.item(i, what)); break;
            case 3: {
                int at = below(4) - 1;
                due("itemAs(" + b + ", " + what + ", " + at + ")", x.itemAs(b, what, at), m.itemAs(b, what, at));
                break;
            }
            case 4: {
                int k = block ? b : i;
                int side = below(6) - 1;
                due("reach(" + block + ", " + k + ", " + side + ")", x.reach(block, k, side), m.reach(block, k, side));
                break;
            }
            default: due("around(" + b + ", " + t + ")", x.around(b, t), m.around(b, t)); break;
        }
    }
}
