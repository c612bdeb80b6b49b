import java.util.function.Supplier;

/** Promises 12 and 13: read, fault. */
public final class ReadTest {
    private static final int OUTSIDE = -2, STATE = -3, NONE = -9;
    private static final Check check = new Check();

    public static void main(String[] args) {
        check.runAll(ReadTest.class);
    }

    private static void reads(String text, int want) {
        check.due("read() of [" + text + "]", Run.withText(text).read(), want);
    }

    // ---- 12

    @Says(promise = 12, value = "THE TEXT is read: how many TOKENS.")
    private static void readAnswersHowManyTokens() {
        reads("", 0);
        reads(" \n\n", 0);
        reads("# a note", 0);
        reads("a", 1);
        reads("abcdefgh123456789", 2);
        reads("a1b", 3);
        reads("a''b", 3);
        reads("a!\"$%&*+,./;<>?@^_|", 19);
        reads("(a) do\n [b]", 7);
        reads(";".repeat(600), 600);
        reads("a of", 2);
        Run x = Run.withText("a b");
        check.due("once", x.read(), 2);
        check.due("and again", x.read(), 2);
        x.feedAll(" c");
        check.due("with more bytes", x.read(), 3);
        x.opener(Run.word("b"), 2);
        check.due("by another book", x.read(), 3);
        check.due("which is seen", x.count(1), 2);
    }

    @Says(promise = 12, value = "-100 less PLACE of THE FAULT.")
    private static void readAnswersMinusHundredLessThePlace() {
        reads("{", -100);
        reads(" a", -101);
        reads("a )", -102);
        reads("a\tb", -101);
        reads("a\n b", -103);
        reads("a (b", -102);
        reads("do a", -103);
        reads("do", -102);
        reads("do\n", -103);
        reads(" ".repeat(599) + "{", -699);
        reads("a :" + " ".repeat(597), -700);
        Run x = Run.withText("a )");
        check.due("once", x.read(), -102);
        check.due("and again", x.read(), -102);
        x.cut(1);
        check.due("no more", x.read(), 1);
    }

    @Says(promise = 12, value = {"THE TEXT is read: how many TOKENS.", "-100 less PLACE of THE FAULT."})
    private static void readLeavesNothingOfTheOneBefore() {
        Run x = Run.afterRead("of a (b) = c\n   d");
        x.readAnew("e");
        check.due("tokens", x.count(0), 1);
        check.due("blocks", x.count(1), 1);
        check.due("items", x.count(2), 1);
        check.due("parts", x.item(0, 3), 1);
        x.readAnew("a (b");
        check.due("nothing with a fault", x.count(0), STATE);
        x.readAnew("a b");
        check.due("two without", x.count(0), 2);
        check.due("no fault", x.fault(0), 0);
    }

    @Says(promise = 12, value = "THE TEXT is read: how many TOKENS.")
    private static void theLastCallIsAnsweredAsTheFirst() {
        Run x = Run.withBook();
        while (x.callsLeft() > 8) {
            x.readAnew("a do\n b");
            x.cut(0);
            x.feed(Run.word("c {"));
            x.read();
        }
        x.readAnew("a (b)");
        while (x.callsLeft() > 1) {
            x.feed(0);
        }
        check.due("call 512", x.read(), 4);
        check.due("there are no more", x.callsLeft(), 0);
    }

    // ---- 13

    private static void faultAt(String text, int tab, int kind, int place, int line, int column) {
        Run x = Run.withText(text);
        x.tab(tab);
        check.due("read() of [" + text + "]", x.read(), -100 - place);
        int[] wants = {kind, place, line, column};
        for (int what = 0; what < 4; what++) {
            check.due("fault(" + what + ") of [" + text + "]", x.fault(what), wants[what]);
        }
    }

    @Says(promise = 13, value = "THE FAULT of the latest read():")
    private static void faultIsOfTheLatestRead() {
        Run x = Run.afterRead("a\n b");
        x.readAnew("a b )");
        check.due("kind of the later one", x.fault(0), 5);
        check.due("place of the later one", x.fault(1), 4);
        x.cut(3);
        int[] wants = {5, 4, 0, 4};
        for (int what = 0; what < 4; what++) {
            check.due("of the latest, though the text is another one: " + what, x.fault(what), wants[what]);
        }
        x.tab(4);
        check.due("and the book", x.fault(0), 5);
        x.read();
        check.due("none by the next one", x.fault(0), 0);
        for (int what = 1; what < 4; what++) {
            check.due("none by the next one: " + what, x.fault(what), NONE);
        }
    }

    @Says(promise = 13, value = "what = 0 its kind (0: none, or none was read),")
    private static void faultNoughtIsItsKind() {
        check.due("none was read", new Run().fault(0), 0);
        check.due("not yet", Run.withText("a {").fault(0), 0);
        check.due("none", Run.afterRead("a").fault(0), 0);
        check.due("none in an empty text", Run.afterRead("").fault(0), 0);
        String[] texts = {"{", "\t", "do a", "a\n b", ")", "("};
        for (int kind = 1; kind <= 6; kind++) {
            check.due("kind " + kind, Run.afterRead(texts[kind - 1]).fault(0), kind);
        }
    }

    @Says(promise = 13, value = "1 PLACE, 2 its LINE, 3 its COLUMN")
    private static void faultTellsPlaceLineAndColumn() {
        faultAt("{", 0, 1, 0, 0, 0);
        faultAt("a\nb\n  {", 0, 1, 6, 2, 2);
        faultAt("a\nb \t", 0, 2, 4, 1, 2);
        faultAt("a\n\t\tb", 0, 2, 2, 1, 0);
        faultAt("\n {", 0, 1, 2, 1, 1);
        faultAt("\n\n{", 0, 1, 2, 2, 0);
        faultAt("\n\ta", 4, 4, 2, 1, 4);
        faultAt("a\t{", 4, 1, 2, 0, 4);
        faultAt("a do\n\n b\n\tc", 3, 4, 10, 3, 3);
        faultAt("a\nb )", 0, 5, 4, 1, 2);
        faultAt("a\nb ( [ c\nd", 0, 6, 4, 1, 2);
        faultAt("a 'b\nc", 0, 1, 2, 0, 2);
        faultAt("'a\n b' )", 0, 5, 7, 1, 4);
        faultAt("a do\n\tb\n\n\t c", 8, 4, 11, 3, 9);
        faultAt("\n".repeat(599) + "{", 0, 1, 599, 599, 0);
        faultAt("a" + "\t".repeat(598) + "{", 8, 1, 599, 0, 598 * 8);
    }

    @Says(promise = 13, value = "(the end: of the last LINE behind its last byte, behind a byte 10 the next LINE's 0);")
    private static void faultAtTheEnd() {
        faultAt("do", 0, 3, 2, 0, 2);
        faultAt("a do", 0, 3, 4, 0, 4);
        faultAt("a do # x", 0, 3, 8, 0, 8);
        faultAt("a do\n  ", 0, 3, 7, 1, 2);
        faultAt("a do\t", 4, 3, 5, 0, 8);
        faultAt("a do \t", 4, 3, 6, 0, 8);
        faultAt("a do\n\t", 8, 3, 6, 1, 8);
        faultAt("a do\n", 0, 3, 5, 1, 0);
        faultAt("a do\n\n\n", 0, 3, 7, 3, 0);
        faultAt("a do\n  \n", 0, 3, 8, 2, 0);
        faultAt("a :" + " ".repeat(597), 0, 3, 600, 0, 600);
        faultAt("a :" + "\n".repeat(597), 0, 3, 600, 597, 0);
    }

    @Says(promise = 13, value = "1 to 3: NONE without.")
    private static void faultIsNoneWithout() {
        Run[] all = {new Run(), Run.withText("a {"), Run.afterRead("a"), Run.afterRead("")};
        for (int i = 0; i < all.length; i++) {
            for (int what = 1; what < 4; what++) {
                check.due(i + ": fault(" + what + ")", all[i].fault(what), NONE);
            }
        }
    }

    @Says(promise = 13, value = "OUTSIDE.")
    private static void aFaultOutside() {
        for (String text : new String[] {"a", "a )"}) {
            Supplier<Run> some = () -> Run.afterRead(text);
            for (int what : new int[] {-1, 4, Integer.MIN_VALUE, Integer.MAX_VALUE}) {
                check.refused("fault(" + what + ") of [" + text + "]", some, x -> x.fault(what), OUTSIDE);
            }
        }
        check.due("not read", new Run().fault(4), OUTSIDE);
        check.due("not read, below", new Run().fault(-1), OUTSIDE);
    }
}
