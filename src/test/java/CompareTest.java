/** Promises 25 and 26: same, parts. */
public final class CompareTest {
    private static final int STATE = IndentReader.STATE, NONE = IndentReader.NONE;
    private static final Check check = new Check();

    public static void main(String[] args) {
        pairs();
        nothingKept();
        refusals();
        readByTheBook();
        neitherChangesTheReading();
        check.end();
    }

    private static void compare(String kept, String text, int same, int parts) {
        IndentReader x = Check.withText(kept);
        x.keep();
        x.cut(0);
        Check.feed(x, text);
        x.read();
        check.due("same() of [" + kept + "] and [" + text + "]", x.same(), same);
        check.due("parts() of [" + kept + "] and [" + text + "]", x.parts(), parts);
    }

    private static void pairs() {
        compare("", "", 1, NONE);
        compare("a", "", 0, 0);
        compare("", "a", 0, 0);
        compare("a do\n  b", "# n\na   do\n\n      b # n\n", 1, NONE);
        compare("a do\n  b", "a do\n  b\n  c", 0, 3);
        compare("a do\n  b\n  c", "a do\n  b", 0, 3);
        compare("a b c", "a b d", 0, 2);
        compare("a b c", "a b cc", 0, 2);
        compare("a b c", "b b c", 0, 0);
        compare("a 12", "a 1 2", 0, 1);
        compare("'a b'", "'a  b'", 0, 0);
        compare("a b", "a\nb", 0, 1);
        compare("a\nb\nc", "a\nb c", 0, 2);
        compare("a b\nc", "a\nb c", 0, 1);
        compare("of (a)", "of\n(a)", 0, 1);
        compare("of a\n   b", "of a\n    b", 0, 2);
        compare("let x\nin y", "let x in y", 1, NONE);
        compare("(a\nb)", "( a b )", 1, NONE);
        compare("a of", "a  of\n", 1, NONE);
        compare("let x of\nin y", "let x of in y", 1, NONE);
        compare("of a\nb", "of a b", 0, 2);
    }

    private static void nothingKept() {
        IndentReader x = Check.afterRead("");
        check.due("no text at all", x.same(), 1);
        check.due("parts nowhere", x.parts(), NONE);
        Check.feed(x, "a");
        x.read();
        check.due("one is no longer empty", x.same(), 0);
        check.due("parts at once", x.parts(), 0);
    }

    private static void refusals() {
        IndentReader x = Check.withText("a");
        x.keep();
        check.due("same, not read", x.same(), STATE);
        check.due("parts, not read", x.parts(), STATE);
        x.read();
        check.due("same, read", x.same(), 1);
        Check.feed(x, " )");
        x.read();
        check.due("same, a fault", x.same(), STATE);
        check.due("parts, a fault", x.parts(), STATE);
        x.keep();
        x.cut(1);
        x.read();
        check.due("same, a fault in the kept one", x.same(), STATE);
        check.due("parts, a fault in the kept one", x.parts(), STATE);
        x.keep();
        check.due("kept anew", x.same(), 1);
    }

    private static void readByTheBook() {
        IndentReader x = Check.withText("z\n  b");
        x.keep();
        x.cut(0);
        Check.feed(x, "z\n b");
        x.opener(Check.word("z"), 1);
        x.read();
        check.due("the book is the one of now", x.same(), 1);
        check.due("for parts too", x.parts(), NONE);
    }

    private static void neitherChangesTheReading() {
        IndentReader x = Check.withText("a (b)");
        x.keep();
        x.cut(0);
        Check.feed(x, "c do\n  d e");
        x.read();
        x.same();
        x.parts();
        check.due("tokens", x.count(0), 4);
        check.due("block", x.block(1, 0), 1);
        check.due("text", Check.textOf(x), "c do\n  d e");
        x.cut(0);
        Check.feed(x, "a )");
        x.read();
        x.same();
        check.due("fault", x.fault(1), 2);
    }
}
