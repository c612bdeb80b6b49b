import java.util.function.Supplier;

/** Promises 27 and 28: mend, mended. */
public final class MendTest {
    private static final int OUTSIDE = -2, STATE = -3, FULL = -4, NONE = -9;
    private static final Check check = new Check();

    public static void main(String[] args) {
        check.runAll(MendTest.class);
    }

    private static void mend(String text, int tab, int line, int by, String want) {
        Supplier<Run> made = () -> {
            Run x = Run.afterRead(text, tab);
            x.mend();
            return x;
        };
        Run x = Run.afterRead(text, tab);
        check.due("mend() of [" + text + "]", x.mend(), 1);
        check.due("line of [" + text + "]", x.mended(0), line);
        check.due("columns of [" + text + "]", x.mended(1), by);
        check.due("read no more [" + text + "]", x.count(0), STATE);
        check.due("reads well [" + text + "]", x.read() >= 0 ? 1 : 0, 1);
        check.due("mended [" + text + "]", Check.longText(made), want);
    }

    private static void mend(String text, int line, int by, String want) {
        mend(text, 0, line, by, want);
    }

    private static void noMend(String text, int tab) {
        Supplier<Run> made = () -> Run.afterRead(text, tab);
        check.refused("mend() of [" + text + "]", made, x -> x.mend(), 0);
        Run x = made.get();
        x.mend();
        check.due("no line of [" + text + "]", x.mended(0), NONE);
        check.due("no columns of [" + text + "]", x.mended(1), NONE);
        check.due("still to be mended [" + text + "]", x.mend(), 0);
    }

    private static void noMend(String text) {
        noMend(text, 0);
    }

    // ---- 27

    @Says(promise = 27, value = {"THE FAULT is mended by one LINE:", "of all shifts", "by -4 .. 4, not 0)",
        "of one LINE by which it could be read without a FAULT,"})
    private static void byFourColumnsAtMost() {
        mend("a\n b", 1, -1, "a\nb");
        mend("a\n  b", 1, -2, "a\nb");
        mend("a\n   b", 1, -3, "a\nb");
        mend("a\n    b", 1, -4, "a\nb");
        noMend("a\n     b");
        mend("a do\nb", 1, 1, "a do\n b");
        mend("of a\n\tb do\n     c", 8, 2, 4, "of a\n\tb do\n         c");
        noMend("of a\n\tb do\n    c", 8);
        mend("of a\n\tb do\n      c", 8, 2, 3, "of a\n\tb do\n         c");
    }

    @Says(promise = 27, value = "of one LINE by which it could be read without a FAULT,")
    private static void oneLineHasToBeEnough() {
        mend(" a\nb", 0, -1, "a\nb");
        mend("a do\n  b\n c", 1, -1, "a do\n b\n c");
        mend("a do\n    b\n  c\n  d", 1, -2, "a do\n  b\n  c\n  d");
        noMend("a\n b\n c");
        noMend(" a\n b");
        noMend("a\n b )");
        noMend("a\n b (");
        noMend("a\n b do");
        mend("a do\n\n# n\nb", 3, 1, "a do\n\n# n\n b");
        mend("'x\n  ' of a\n     b", 1, -2, "'x\n' of a\n     b");
    }

    @Says(promise = 27, value = "(as shift() does, where it is not refused;")
    private static void aShiftThatIsRefusedMendsNothing() {
        mend("do\n    a\n   b", 4, 1, -1, "do\n   a\n   b");
        mend("do\n\ta\n   b", 4, 2, 1, "do\n\ta\n    b");
        mend("a\n b", 4, 1, -1, "a\nb");
        noMend("a\n\tb", 1);
        noMend("a\n \tb", 8);
        noMend("a do b");
    }

    @Says(promise = 27, value = "(as shift() does, where it is not refused;")
    private static void aShiftOfAFullTextMendsNothing() {
        String text = "a:\nb #" + "x".repeat(593);
        check.due("599 bytes", text.length(), 599);
        mend(text, 1, 1, "a:\n b #" + "x".repeat(593));
        noMend(text + "x");
        String left = "a\n b #" + "x".repeat(594);
        check.due("600 bytes", left.length(), 600);
        mend(left, 1, -1, "a\nb #" + "x".repeat(594));
        StringBuilder lines = new StringBuilder();
        for (int i = 0; i < 299; i++) {
            lines.append("a\n");
        }
        mend(lines + " b", 299, -1, lines + "b");
        noMend(lines.substring(0, 590) + "a :");
    }

    @Says(promise = 27, value = "the one of the fewest COLUMNS,")
    private static void theFewestColumns() {
        mend("of a\n  b", 1, 1, "of a\n   b");
        mend("of a\n b", 1, -1, "of a\nb");
        mend("do\n    a\n   b\nc", 1, -1, "do\n   a\n   b\nc");
        mend("do\n  a do\n     b\n     c\n    d", 4, 1, "do\n  a do\n     b\n     c\n     d");
        mend("do\n   a\n   b\n  c", 3, 1, "do\n   a\n   b\n   c");
    }

    @Says(promise = 27, value = "of like ones of the least LINE,")
    private static void ofLikeOnesTheLeastLine() {
        mend("a do\n  b\n c", 1, -1, "a do\n b\n c");
        mend("do\n  a do\n      b\n      c\n    d", 1, 2, "do\n    a do\n      b\n      c\n    d");
        mend("do\n    a\n  b", 1, -2, "do\n  a\n  b");
    }

    @Says(promise = 27, value = "of like ones to the left:")
    private static void ofLikeOnesToTheLeft() {
        mend("a do\n  b\n  d\n c", 3, -1, "a do\n  b\n  d\nc");
        mend("a do\n   b\n   x do\n     c\n     e\n    d", 5, -1, "a do\n   b\n   x do\n     c\n     e\n   d");
        mend("do\n    a\n    c\n  b", 3, -2, "do\n    a\n    c\nb");
    }

    @Says(promise = 27, value = "it is done: 1;")
    private static void itIsDone() {
        Run x = Run.afterRead("a\n  b\nc");
        check.due("one", x.mend(), 1);
        check.due("it is done", x.text(), "a\nb\nc");
        check.due("bytes", x.count(4), 5);
        check.due("three tokens", x.read(), 3);
        check.due("no fault", x.fault(0), 0);
        Run y = Run.afterRead("do\na");
        check.due("one to the right", y.mend(), 1);
        check.due("it is done to the right", y.text(), "do\n a");
    }

    @Says(promise = 27, value = "0: there is none.")
    private static void thereIsNone() {
        noMend("a {");
        noMend("a\tb");
        noMend("\tb");
        noMend("a )");
        noMend("(a");
        noMend("(a\nb]");
        noMend("a do");
        noMend("a do\n");
        noMend("a do b");
        noMend("do\n )");
        noMend("do\n in");
        noMend("a\n     b");
        noMend("'");
    }

    @Says(promise = 27, value = "STATE: it is read without a FAULT, or is not read;")
    private static void mendWithoutAFault() {
        check.due("a new object", new Run().mend(), STATE);
        check.refused("not read", () -> Run.withText("a\n b"), x -> x.mend(), STATE);
        check.refused("read without a fault", () -> Run.afterRead("a b"), x -> x.mend(), STATE);
        check.refused("an empty one", () -> Run.afterRead(""), x -> x.mend(), STATE);
        check.refused("read no more", () -> {
            Run x = Run.afterRead("a\n b");
            x.feed(0);
            return x;
        }, x -> x.mend(), STATE);
        check.refused("mended, and not read", () -> {
            Run x = Run.afterRead("a\n b");
            x.mend();
            return x;
        }, x -> x.mend(), STATE);
        check.refused("mended, and read", () -> {
            Run x = Run.afterRead("a\n b");
            x.mend();
            x.read();
            return x;
        }, x -> x.mend(), STATE);
    }

    /** So many mends, each with some of no avail between, and then a fault that could be mended. */
    private static Run afterMends(int mends) {
        Run x = new Run();
        for (int i = 0; i < mends; i++) {
            x.readAnew("a\n b {");
            x.mend();
            x.readAnew("a\n b");
            x.mend();
            x.mend();
        }
        x.readAnew("c\n  d");
        return x;
    }

    @Says(promise = 27, value = "FULL: 30 were done.")
    private static void thirtyWereDone() {
        check.due("a 29th", afterMends(28).mend(), 1);
        check.due("a 30th", afterMends(29).mend(), 1);
        check.refused("a 31st", () -> afterMends(30), x -> x.mend(), FULL);
        Run x = afterMends(30);
        x.mend();
        check.due("the text stays", x.text(), "c\n  d");
        check.due("what was done stays", x.mended(1), -1);
        x.readAnew("c {");
        check.due("none could be done", x.mend(), FULL);
        x.readAnew("c");
        check.due("STATE ahead of FULL", x.mend(), STATE);
        x.cut(0);
        check.due("not read ahead of FULL", x.mend(), STATE);
    }

    @Says(promise = 27, value = "(It is read no more, if 1.)")
    private static void itIsReadNoMore() {
        Run x = Run.afterRead("a\n b");
        x.mend();
        for (int what = 0; what < 3; what++) {
            check.due("count(" + what + ")", x.count(what), STATE);
        }
        check.due("plain", x.plain(), STATE);
        check.due("mend", x.mend(), STATE);
        Run y = Run.afterRead("a )");
        check.due("none", y.mend(), 0);
        check.due("it is still read, with its fault", y.mend(), 0);
    }

    // ---- 28

    @Says(promise = 28, value = "What the latest mend() did: 0 the LINE, 1 by how many COLUMNS;")
    private static void whatTheLatestMendDid() {
        Run x = Run.afterRead("a\n  b");
        x.mend();
        check.due("line", x.mended(0), 1);
        check.due("columns to the left", x.mended(1), -2);
        x.readAnew("do\na");
        check.due("still the one before", x.mended(1), -2);
        x.mend();
        check.due("another line", x.mended(0), 1);
        check.due("columns to the right", x.mended(1), 1);
        x.readAnew("    a");
        x.mend();
        check.due("line 0", x.mended(0), 0);
        check.due("by four", x.mended(1), -4);
        x.shift(0, 1);
        x.cut(0);
        check.due("whatever becomes of the text", x.mended(1), -4);
    }

    @Says(promise = 28, value = "NONE: nothing.")
    private static void theLatestMendDidNothing() {
        for (int what = 0; what < 2; what++) {
            check.due("none was called: " + what, new Run().mended(what), NONE);
            Run x = Run.afterRead("a\n b");
            check.due("nor here: " + what, x.mended(what), NONE);
            x.mend();
            x.readAnew("a )");
            x.mend();
            check.due("none could be found: " + what, x.mended(what), NONE);
            Run y = Run.afterRead("a b");
            y.mend();
            check.due("it was refused, the first: " + what, y.mended(what), NONE);
        }
    }

    @Says(promise = 28, value = "What the latest mend() did: 0 the LINE, 1 by how many COLUMNS;")
    private static void aRefusedMendDoesNotCount() {
        Run x = Run.afterRead("a\n b");
        x.mend();
        x.mend();
        check.due("not read: the line stays", x.mended(0), 1);
        check.due("not read: the columns stay", x.mended(1), -1);
        x.read();
        x.mend();
        check.due("no fault: the line stays", x.mended(0), 1);
        check.due("no fault: the columns stay", x.mended(1), -1);
    }

    @Says(promise = 28, value = "OUTSIDE.")
    private static void aMendedOutside() {
        for (int what : new int[] {-1, 2, Integer.MIN_VALUE, Integer.MAX_VALUE}) {
            check.due("at first: mended(" + what + ")", new Run().mended(what), OUTSIDE);
            check.refused("mended(" + what + ")", () -> {
                Run x = Run.afterRead("a\n b");
                x.mend();
                return x;
            }, x -> x.mended(what), OUTSIDE);
        }
    }
}
