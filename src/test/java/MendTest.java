/** Promises 27 and 28: mend, mended. */
public final class MendTest {
    private static final int OUTSIDE = IndentReader.OUTSIDE, STATE = IndentReader.STATE, FULL = IndentReader.FULL;
    private static final int NONE = IndentReader.NONE;
    private static final Check check = new Check();

    public static void main(String[] args) {
        mends();
        faultsThatNoShiftMends();
        longTexts();
        refusals();
        thirtyMends();
        whatTheLatestMendDid();
        check.end();
    }

    private static void mend(String text, int line, int by, String want) {
        IndentReader x = Check.afterRead(text);
        check.due("mend() of [" + text + "]", x.mend(), 1);
        check.due("line of [" + text + "]", x.mended(0), line);
        check.due("columns of [" + text + "]", x.mended(1), by);
        check.due("mended [" + text + "]", Check.textOf(x), want);
        check.due("read no more [" + text + "]", x.count(0), STATE);
        check.due("reads well [" + text + "]", x.read() >= 0 ? 1 : 0, 1);
    }

    private static void noMend(String text) {
        IndentReader x = Check.afterRead(text);
        int fault = x.fault(1);
        check.due("mend() of [" + text + "]", x.mend(), 0);
        check.due("no line of [" + text + "]", x.mended(0), NONE);
        check.due("no columns of [" + text + "]", x.mended(1), NONE);
        check.due("as it was [" + text + "]", Check.textOf(x), text);
        check.due("fault as it was [" + text + "]", x.fault(1), fault);
        check.due("still to be mended [" + text + "]", x.mend(), 0);
    }

    private static void mends() {
        mend("a\n b", 1, -1, "a\nb");
        mend("a\n    b", 1, -4, "a\nb");
        mend(" a\nb", 0, -1, "a\nb");
        mend("a do\nb", 1, 1, "a do\n b");
        mend("a do\n  b\n c", 1, -1, "a do\n b\n c");
        mend("a do\n  b\n  d\n c", 3, -1, "a do\n  b\n  d\nc");
        mend("a do\n   b\n   x do\n     c\n     e\n    d", 5, -1, "a do\n   b\n   x do\n     c\n     e\n   d");
        mend("of a\n  b", 1, 1, "of a\n   b");
        mend("a do\n    b\n  c\n  d", 1, -2, "a do\n  b\n  c\n  d");
        mend("a do\n\n# n\nb", 3, 1, "a do\n\n# n\n b");
        mend("hang a\n      b", 1, -1, "hang a\n     b");
    }

    private static void faultsThatNoShiftMends() {
        noMend("a {");
        noMend("a\tb");
        noMend("a )");
        noMend("(a");
        noMend("a do");
        noMend("a do b");
        noMend("a\n     b");
        noMend("a\n b\n c");
        noMend("do\n )");
    }

    private static void longTexts() {
        String text = "a:\nb #" + "x".repeat(593);
        mend(text, 1, 1, "a:\n b #" + "x".repeat(593));
        noMend(text + "x");
        StringBuilder lines = new StringBuilder();
        for (int i = 0; i < 299; i++) {
            lines.append("a\n");
        }
        mend(lines + " b", 299, -1, lines + "b");
        noMend(lines.substring(0, 590) + "a :");
    }

    private static void refusals() {
        IndentReader x = Check.withText("a\n b");
        check.due("not read", x.mend(), STATE);
        x.read();
        x.mend();
        check.due("read no more", x.mend(), STATE);
        x.read();
        check.due("without a fault", x.mend(), STATE);
        check.due("still read", x.count(0), 2);
        check.due("mended(2)", x.mended(2), OUTSIDE);
        check.due("mended(-1)", x.mended(-1), OUTSIDE);
    }

    private static void thirtyMends() {
        IndentReader x = new IndentReader();
        for (int i = 0; i < 30; i++) {
            x.cut(0);
            Check.feed(x, "a\n b");
            x.read();
            check.due("mend " + i, x.mend(), 1);
            check.due("STATE ahead of FULL", x.mend(), STATE);
        }
        x.cut(0);
        Check.feed(x, "a\n  b");
        x.read();
        check.due("the 31st", x.mend(), FULL);
        check.due("nothing was done", Check.textOf(x), "a\n  b");
        check.due("the latest one stays", x.mended(1), -1);
        x.cut(1);
        x.read();
        check.due("nothing to mend", x.mend(), STATE);
    }

    private static void whatTheLatestMendDid() {
        IndentReader x = Check.afterRead("a\n b");
        check.due("nothing yet", x.mended(0), NONE);
        check.due("nothing yet by", x.mended(1), NONE);
        x.mend();
        x.read();
        x.mend();
        check.due("a refused one changes nothing", x.mended(0), 1);
        check.due("nor its columns", x.mended(1), -1);
        Check.feed(x, ")");
        x.read();
        check.due("none can be found", x.mend(), 0);
        check.due("it did nothing", x.mended(0), NONE);
        check.due("by none", x.mended(1), NONE);
    }
}
