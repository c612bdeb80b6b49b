import java.util.function.Supplier;

/** Promises 25 and 26: same, parts. */
public final class CompareTest {
    private static final int STATE = -3, NONE = -9;
    private static final Check check = new Check();

    public static void main(String[] args) {
        check.runAll(CompareTest.class);
    }

    private static Run both(String kept, String text) {
        Run x = Run.withText(kept);
        x.keep();
        x.readAnew(text);
        return x;
    }

    private static void compare(String kept, String text, int same, int parts) {
        String names = " of [" + kept + "] and [" + text + "]";
        check.due("same()" + names, both(kept, text).same(), same);
        check.due("parts()" + names, both(kept, text).parts(), parts);
        check.due("same() turned" + names, both(text, kept).same(), same);
        check.due("parts() turned" + names, both(text, kept).parts(), parts);
    }

    // ---- 25

    @Says(promise = 25, value = "Whether THE TEXT that was kept, read by the BOOK, has the same TREE:")
    private static void theKeptOneHasTheSameTree() {
        compare("", "", 1, NONE);
        compare("a", "a", 1, NONE);
        compare("a do\n  b", "# n\na   do\n\n      b # n\n", 1, NONE);
        compare("let x\nin y", "let x in y", 1, NONE);
        compare("(a\nb)", "( a b )", 1, NONE);
        compare("a of", "a  of\n", 1, NONE);
        compare("let x of\nin y", "let x of in y", 1, NONE);
        compare("=".repeat(600), "=".repeat(600), 1, NONE);
        Run x = Run.withText("z\n  b");
        x.keep();
        x.cut(0);
        x.feedAll("z\n b");
        x.opener(Run.word("z"), 1);
        x.read();
        check.due("read by the book of now", x.same(), 1);
        check.due("for parts, too", x.parts(), NONE);
    }

    @Says(promise = 25, value = "Whether THE TEXT that was kept, read by the BOOK, has the same TREE:")
    private static void nothingWasKeptAtFirst() {
        Run x = Run.afterRead("");
        check.due("an empty text", x.same(), 1);
        check.due("parts nowhere", x.parts(), NONE);
        x.readAnew("a");
        check.due("another one", x.same(), 0);
        check.due("parts at once", x.parts(), 0);
    }

    @Says(promise = 25, value = "as many TOKENS, BLOCKS, ITEMS,")
    private static void asManyTokensBlocksItems() {
        compare("a", "", 0, 0);
        compare("a do\n  b", "a do\n  b\n  c", 0, 3);
        compare("a b", "a b c", 0, 2);
        compare("a\nb", "a\nb\nc", 0, 2);
        compare("of a\nb", "of a b", 0, 2);
        compare(";".repeat(599), ";".repeat(600), 0, 599);
    }

    @Says(promise = 25, value = "each TOKEN with the same bytes in the same ITEM,")
    private static void sameBytesInTheSameItem() {
        compare("a b c", "a b d", 0, 2);
        compare("a b c", "a b cc", 0, 2);
        compare("a b c", "b b c", 0, 0);
        compare("a bc", "a bd", 0, 1);
        compare("a 12", "a 1 2", 0, 1);
        compare("'a b'", "'a  b'", 0, 0);
        compare("'a\nb'", "'a b'", 0, 0);
        compare("'\u00c8'", "'\u00c9'", 0, 0);
        compare("a\nb c", "a b\nc", 0, 1);
        compare("a b\nc d", "a b\nc\nd", 0, 3);
    }

    @Says(promise = 25, value = {"each ITEM in the same BLOCK,", "each BLOCK of the same KIND in the same ITEM: 1; else 0."})
    private static void sameItemsInTheSameBlocks() {
        compare("hang a = b\n         c", "hang a = b\n     c", 0, 4);
        compare("do\n a\n b", "do\n a\nb", 0, 2);
        compare("of (a)", "of\n(a)", 0, 1);
        compare("of a\n   b", "of a\n    b", 0, 2);
        compare("of = a", "of\n= a", 0, 1);
        compare("a of b", "a of\nb", 0, 2);
    }

    @Says(promise = 25, value = "STATE: THE TEXT is not read, or has a FAULT;")
    private static void sameWithoutAReading() {
        check.due("a new object", new Run().same(), STATE);
        Supplier<Run> unread = () -> {
            Run x = both("a", "a");
            x.feed(0);
            return x;
        };
        check.due("read", both("a", "a").same(), 1);
        check.refused("read no more", unread, x -> x.same(), STATE);
        for (String text : new String[] {"a {", "a\tb", "do a", "a\n b", "a )", "a ("}) {
            check.refused("a fault in [" + text + "]", () -> both("a", text), x -> x.same(), STATE);
        }
    }

    @Says(promise = 25, value = "the kept one has one.")
    private static void sameWithAFaultInTheKeptOne() {
        for (String text : new String[] {"a {", "a\tb", "do a", "a\n b", "a )", "a (", "do"}) {
            check.refused("a fault in [" + text + "]", () -> both(text, "a"), x -> x.same(), STATE);
        }
        Run x = both("a\tb", "a b");
        check.due("a tab", x.same(), STATE);
        x.tab(4);
        x.read();
        check.due("with TAB 4 it is none", x.same(), 1);
        x.keep();
        check.due("kept anew", x.same(), 1);
    }

    @Says(promise = 25, value = "as many TOKENS, BLOCKS, ITEMS,")
    private static void nothingOfALongerReadingBeforeCounts() {
        String[] longer = {"do\n a\n b\nc", "a\nb\nc\nd", "of a = b (c)\nd", "(a) (b) (c)"};
        for (String before : longer) {
            for (String text : new String[] {"", "x", "x\ny", "x of y", "x\n(y)"}) {
                Run x = Run.afterRead(before);
                x.readAnew(text);
                x.keep();
                check.due("[" + text + "] read behind [" + before + "]: same", x.same(), 1);
                check.due("[" + text + "] read behind [" + before + "]: parts", x.parts(), NONE);
                Run y = both(before, before);
                y.same();
                y.readAnew(text);
                y.keep();
                check.due("[" + text + "] kept behind [" + before + "]: same", y.same(), 1);
                check.due("[" + text + "] kept behind [" + before + "]: parts", y.parts(), NONE);
                y.readAnew("x");
                y.readAnew(before);
                check.due("[" + before + "] again: same", y.same(), 0);
            }
        }
    }

    // ---- 26

    @Says(promise = 26, value = {"The first TOKEN that one of both has not,",
        "or whose bytes, ITEM (by number) or BLOCK are other ones;"})
    private static void theFirstTokenThatIsAnother() {
        compare("a b c", "a x d", 0, 1);
        compare("a", "", 0, 0);
        compare("a b", "a", 0, 1);
        compare("a\nb", "a b", 0, 1);
        compare("a b c", "a b\nc d", 0, 2);
        compare("hang a = b\n         c", "hang a = b\n     c", 0, 4);
        compare(";".repeat(599) + ":a".charAt(1), ";".repeat(599) + "b", 0, 599);
        compare(";".repeat(600), ";".repeat(599), 0, 599);
    }

    @Says(promise = 26, value = "NONE: there is none.")
    private static void noTokenIsAnother() {
        check.due("nothing", both("", "").parts(), NONE);
        check.due("the same text", both("a (b) of c", "a (b) of c").parts(), NONE);
        check.due("the same tree", both("a do\n b", "a do\n    b\n").parts(), NONE);
        check.due("600", both(";".repeat(600), ";".repeat(600)).parts(), NONE);
    }

    @Says(promise = 26, value = "STATE: as same.")
    private static void partsWithoutAReading() {
        check.due("a new object", new Run().parts(), STATE);
        check.refused("read no more", () -> {
            Run x = both("a", "a");
            x.feed(0);
            return x;
        }, x -> x.parts(), STATE);
        for (String text : new String[] {"a {", "a\tb", "do a", "a\n b", "a )", "a (", "do"}) {
            check.refused("a fault in [" + text + "]", () -> both("a", text), x -> x.parts(), STATE);
            check.refused("a fault in the kept [" + text + "]", () -> both(text, "a"), x -> x.parts(), STATE);
        }
    }

    @Says(promise = 26, value = "The first TOKEN that one of both has not,")
    private static void neitherChangesTheReading() {
        for (String kept : new String[] {"a (b)", "a )", ""}) {
            Supplier<Run> made = () -> both(kept, "c do\n  d e");
            Run x = made.get();
            x.same();
            x.parts();
            check.due("after same() and parts() with [" + kept + "]", Check.probe(x), Check.probe(made.get()));
        }
    }
}
