import java.util.function.Supplier;
import java.util.function.ToIntFunction;

/** Promises 7 to 11: feed, cut, shift, keep, byteAt. */
public final class TextTest {
    private static final int UNKNOWN = -1, OUTSIDE = -2, STATE = -3, FULL = -4, INDEX = -12;
    private static final Check check = new Check();

    public static void main(String[] args) {
        check.runAll(TextTest.class);
    }

    private static void unread(String what, ToIntFunction<Run> act, int want) {
        Run x = Run.afterRead("a b");
        check.due("read ahead of " + what, x.count(0), 2);
        check.due(what, act.applyAsInt(x), want);
        for (int count = 0; count < 3; count++) {
            check.due("read no more by " + what, x.count(count), STATE);
        }
        check.due("no token by " + what, x.token(0, 0), STATE);
        check.due("no page by " + what, x.plain(), STATE);
        check.due("read again after " + what, x.readAnew("a"), 1);
        check.due("counted again after " + what, x.count(0), 1);
        Run faulty = Run.afterRead("a\n b");
        act.applyAsInt(faulty);
        check.due("a fault is to be mended no more by " + what, faulty.mend(), STATE);
    }

    // ---- 7

    @Says(promise = 7, value = "Eight bytes come behind THE TEXT, the lowest of w first,")
    private static void eightBytesTheLowestFirst() {
        Run x = new Run();
        check.due("eight", x.feed(0x6867666564636261L), 8);
        check.due("eight more", x.feed(0x706f6e6d6c6b6a69L), 16);
        check.due("the lowest first, behind the text", x.text(), "abcdefghijklmnop");
        check.due("great bytes", x.feed(-1L), 24);
        check.due("255", x.byteAt(23), 255);
        check.due("the highest alone of 128", x.feed(0x8001010101010101L), 32);
        check.due("128", x.byteAt(31), 128);
        check.due("1", x.byteAt(30), 1);
    }

    @Says(promise = 7, value = "as far as they are not 0 (a 0 ends them): how many it has.")
    private static void aByteNoughtEndsThem() {
        Run x = new Run();
        check.due("none", x.feed(0), 0);
        check.due("one", x.feed('a'), 1);
        check.due("seven", x.feed(0x0068676665646362L), 8);
        check.due("a 0 in between", x.feed(0x6161616161610069L), 9);
        check.due("a 0 first", x.feed(0x6161616161616100L), 9);
        check.due("none again", x.feed(0), 9);
        check.due("the bytes", x.text(), "abcdefghi");
        check.due("none behind them", x.byteAt(9), INDEX);
    }

    @Says(promise = 7, value = "FULL: there would be more than 600.")
    private static void moreThanSixHundredAreTooMany() {
        Supplier<Run> some = () -> Run.afterRead("a b" + " ".repeat(594));
        check.due("597", some.get().count(4), 597);
        check.due("599", some.get().feed(Run.word("cd")), 599);
        check.due("600", some.get().feed(Run.word("cde")), 600);
        check.refused("601", some, x -> x.feed(Run.word("cdef")), FULL);
        check.refused("605", some, x -> x.feed(Run.word("cdefghij")), FULL);
        check.due("600 and a 0", some.get().feed(Run.word("cde\0fghi")), 600);
        Supplier<Run> full = () -> Run.afterRead("a b" + " ".repeat(597));
        check.due("none more", full.get().feed(0), 600);
        check.due("none more ahead of a 0", full.get().feed(0x6100), 600);
        check.refused("one more", full, x -> x.feed('c'), FULL);
        check.refused("eight more", full, x -> x.feed(-1L), FULL);
        Run eight = Run.withText("a".repeat(592));
        check.due("592 and 8", eight.feed(Run.word("abcdefgh")), 600);
        check.due("the last one", eight.byteAt(599), 'h');
        check.due("one goes", eight.cut(599), 1);
        check.due("one comes", eight.feed('z'), 600);
    }

    @Says(promise = 7, value = "(It is read no more.)")
    private static void feedUnreads() {
        unread("feed", x -> x.feed('c'), 4);
        unread("feed of nothing", x -> x.feed(0), 3);
    }

    // ---- 8

    @Says(promise = 8, value = "THE TEXT keeps its first n bytes: how many went.")
    private static void cutKeepsTheFirst() {
        Run x = new Run();
        check.due("none of none", x.cut(0), 0);
        x.feedAll("abcdef");
        check.due("all stay", x.cut(6), 0);
        check.due("all of them", x.text(), "abcdef");
        check.due("one goes", x.cut(5), 1);
        check.due("four go", x.cut(1), 4);
        check.due("the first stays", x.text(), "a");
        check.due("all go", x.cut(0), 1);
        check.due("none is left", x.count(4), 0);
        x.feedAll("z");
        check.due("others come to the beginning", x.text(), "z");
        check.due("600 go", Run.withText("a".repeat(600)).cut(0), 600);
    }

    @Says(promise = 8, value = "OUTSIDE.")
    private static void aCutOutside() {
        Supplier<Run> some = () -> Run.afterRead("a b");
        for (int n : new int[] {-1, 4, 600, Integer.MIN_VALUE, Integer.MAX_VALUE}) {
            check.refused("cut(" + n + ") of 3", some, x -> x.cut(n), OUTSIDE);
        }
        check.due("cut(3) of 3", some.get().cut(3), 0);
        check.due("cut(0) of 3", some.get().cut(0), 3);
        check.due("cut(1) of none", new Run().cut(1), OUTSIDE);
        check.due("cut(-1) of none", new Run().cut(-1), OUTSIDE);
        check.due("cut(601) of 600", Run.withText("a".repeat(600)).cut(601), OUTSIDE);
    }

    @Says(promise = 8, value = "(It is read no more.)")
    private static void cutUnreads() {
        unread("cut", x -> x.cut(2), 1);
        unread("cut of nothing", x -> x.cut(x.count(4)), 0);
        unread("cut of all", x -> x.cut(0), 3);
    }

    // ---- 9

    private static void shifted(String text, int line, int by, String want) {
        Run x = Run.withText(text);
        check.due("shift(" + line + ", " + by + ") of [" + text + "]", x.shift(line, by), 1);
        check.due("the text then", x.text(), want);
        check.due("its bytes", x.count(4), text.length() + by);
    }

    @Says(promise = 9, value = {"The HEAD of a LINE is shifted by so many COLUMNS",
        "(blanks put ahead of its first byte, or taken away there): 1."})
    private static void aHeadIsShifted() {
        shifted("a\n  b\nc", 1, 3, "a\n     b\nc");
        shifted("a\n  b\nc", 1, 1, "a\n   b\nc");
        shifted("a\n  b\nc", 1, 0, "a\n  b\nc");
        shifted("a\n  b\nc", 1, -1, "a\n b\nc");
        shifted("a\n  b\nc", 1, -2, "a\nb\nc");
        shifted("a\n  b\nc", 0, 2, "  a\n  b\nc");
        shifted("a\n  b\nc", 2, 2, "a\n  b\n  c");
        shifted("  a b", 0, -1, " a b");
        shifted("\tx", 0, 1, " \tx");
        shifted(" \tx", 0, 1, "  \tx");
        shifted(" \tx", 0, -1, "\tx");
        Run x = Run.withText("a do\n b");
        x.shift(1, 3);
        x.read();
        check.due("the head's column", x.token(2, 4), 4);
    }

    @Says(promise = 9, value = "(blanks put ahead of its first byte, or taken away there): 1.")
    private static void aLineOfBlanksAloneIsShifted() {
        shifted("a\n\nb", 1, 2, "a\n  \nb");
        shifted("a\n  \nb", 1, -2, "a\n\nb");
        shifted("\n", 0, 1, " \n");
        shifted("\n", 0, 0, "\n");
        shifted("a\n  ", 1, 1, "a\n   ");
        Run x = Run.withText("a\n  ");
        check.due("all bytes of a last line", x.shift(1, -2), 1);
        check.due("go with the line", x.count(3), 1);
        check.due("which is there no more", x.shift(1, 0), UNKNOWN);
        shifted("'a\nb' c", 1, 2, "'a\n  b' c");
    }

    @Says(promise = 9, value = "UNKNOWN;")
    private static void aShiftOfAnUnknownLine() {
        check.refused("line 0 of none", () -> Run.afterRead(""), x -> x.shift(0, 0), UNKNOWN);
        Supplier<Run> two = () -> Run.afterRead("a do\n  b\n");
        check.due("line 1 of two", two.get().shift(1, 1), 1);
        for (int line : new int[] {-1, 2, 3, Integer.MIN_VALUE, Integer.MAX_VALUE}) {
            check.refused("line " + line + " of two", two, x -> x.shift(line, 1), UNKNOWN);
        }
        check.refused("ahead of OUTSIDE", two, x -> x.shift(2, 41), UNKNOWN);
        check.refused("ahead of STATE", two, x -> x.shift(2, -1), UNKNOWN);
        check.due("line 599 of 600", Run.withText("\n".repeat(600)).shift(599, 0), 1);
        check.due("line 600 of 600", Run.withText("\n".repeat(600)).shift(600, 0), UNKNOWN);
    }

    @Says(promise = 9, value = "OUTSIDE: by is not -40 .. 40;")
    private static void aShiftOutside() {
        Supplier<Run> some = () -> Run.afterRead("a\n" + " ".repeat(50));
        check.due("by 39", some.get().shift(1, 39), 1);
        check.due("by 40", some.get().shift(1, 40), 1);
        check.due("by -39", some.get().shift(1, -39), 1);
        check.due("by -40", some.get().shift(1, -40), 1);
        for (int by : new int[] {41, -41, 100, -100, Integer.MIN_VALUE, Integer.MAX_VALUE}) {
            check.refused("by " + by, some, x -> x.shift(1, by), OUTSIDE);
        }
        check.refused("ahead of STATE", some, x -> x.shift(0, -41), OUTSIDE);
        Run x = some.get();
        x.shift(1, 40);
        check.due("all forty came", x.text(), "a\n" + " ".repeat(90));
        x.shift(1, -40);
        x.shift(1, -40);
        check.due("twice forty went", x.text(), "a\n" + " ".repeat(10));
    }

    @Says(promise = 9, value = "STATE: there are not so many blanks (32) at its beginning;")
    private static void aShiftOfTooFewBlanks() {
        Supplier<Run> some = () -> Run.afterRead("a do\n   b   c\n   d");
        check.due("three of three", some.get().shift(1, -3), 1);
        check.refused("four of three", some, x -> x.shift(1, -4), STATE);
        check.refused("forty of three", some, x -> x.shift(1, -40), STATE);
        check.refused("one of none", some, x -> x.shift(0, -1), STATE);
        check.refused("four of three on the last line", some, x -> x.shift(2, -4), STATE);
        check.due("none of none", some.get().shift(0, 0), 1);
        Run tabbed = Run.withText(" \t \n\t x\n  \n   ");
        check.due("a byte 9 is no such blank", tabbed.shift(0, -2), STATE);
        check.due("not at the beginning either", tabbed.shift(1, -1), STATE);
        check.due("nor is the end of a line", tabbed.shift(2, -3), STATE);
        check.due("nor is the end of the text", tabbed.shift(3, -4), STATE);
        check.due("all that there are", tabbed.shift(3, -3), 1);
    }

    @Says(promise = 9, value = "FULL: more than 600 bytes.")
    private static void aShiftBeyondSixHundredBytes() {
        Supplier<Run> some = () -> Run.afterRead("a do\n  b" + " ".repeat(589));
        check.due("597", some.get().count(4), 597);
        check.due("to 599", some.get().shift(1, 2), 1);
        check.due("to 600", some.get().shift(1, 3), 1);
        check.refused("to 601", some, x -> x.shift(1, 4), FULL);
        check.refused("to 637", some, x -> x.shift(0, 40), FULL);
        Run x = some.get();
        x.shift(1, 3);
        check.due("600 bytes", x.count(4), 600);
        check.due("one more", x.shift(0, 1), FULL);
        check.due("none more", x.shift(0, 0), 1);
        check.due("five less", x.shift(1, -5), 1);
        check.due("six more", x.shift(0, 6), FULL);
        check.due("five more", x.shift(0, 5), 1);
        check.due("from the first on", x.textFrom(0, 11), "     a do\nb");
        check.due("to the last", x.byteAt(599), 32);
        check.due("a long text that moves whole", Check.longText(() -> {
            Run y = Run.withText("a\n" + "bcdefg\n".repeat(80));
            y.shift(1, 38);
            return y;
        }), "a\n" + " ".repeat(38) + "bcdefg\n".repeat(80));
    }

    @Says(promise = 9, value = "(It is read no more.)")
    private static void shiftUnreads() {
        unread("shift", x -> x.shift(0, 1), 1);
        unread("shift by nothing", x -> x.shift(0, 0), 1);
    }

    // ---- 10

    @Says(promise = 10, value = "THE TEXT is kept for same() (instead of the one before): how many bytes.")
    private static void keepAnswersHowManyBytes() {
        Run x = new Run();
        check.due("none", x.keep(), 0);
        x.feedAll("a b");
        check.due("three", x.keep(), 3);
        check.due("three again", x.keep(), 3);
        check.due("600", Run.withText("a".repeat(600)).keep(), 600);
        Run faulty = Run.withText("a )");
        check.due("whatever it is", faulty.keep(), 3);
    }

    @Says(promise = 10, value = "THE TEXT is kept for same() (instead of the one before): how many bytes.")
    private static void keepIsInsteadOfTheOneBefore() {
        Run x = Run.afterRead("a b");
        x.keep();
        check.due("still read", x.count(0), 2);
        check.due("the same", x.same(), 1);
        x.readAnew("a");
        check.due("kept as it was", x.same(), 0);
        check.due("instead of the one before", x.keep(), 1);
        check.due("the same again", x.same(), 1);
        x.readAnew("a b");
        check.due("the one before is no more", x.same(), 0);
        x.cut(0);
        x.keep();
        x.read();
        check.due("an empty one", x.same(), 1);
        x.readAnew("a");
        check.due("nothing of a longer one is left", x.same(), 0);
    }

    // ---- 11

    @Says(promise = 11, value = "Byte i of THE TEXT.")
    private static void bytesOfTheText() {
        Run x = Run.withText("a\n b\u00c8\u0001");
        int[] bytes = {'a', 10, 32, 'b', 0xc8, 1};
        for (int i = 0; i < bytes.length; i++) {
            check.due("byte " + i, x.byteAt(i), bytes[i]);
        }
        for (int b = 1; b < 256; b++) {
            Run y = new Run();
            y.feed(b);
            check.due("byte " + b, y.byteAt(0), b);
        }
    }

    @Says(promise = 11, value = "INDEX.")
    private static void noByteAtThatPlace() {
        check.due("0 of none", new Run().byteAt(0), INDEX);
        Supplier<Run> two = () -> Run.afterRead("ab");
        check.due("1 of two", two.get().byteAt(1), 'b');
        for (int i : new int[] {-1, 2, 3, 599, 600, 601, Integer.MIN_VALUE, Integer.MAX_VALUE}) {
            check.refused("byte " + i + " of two", two, x -> x.byteAt(i), INDEX);
        }
        Run full = Run.withText("a".repeat(599) + "b");
        check.due("599 of 600", full.byteAt(599), 'b');
        check.due("600 of 600", full.byteAt(600), INDEX);
        full.cut(1);
        check.due("one that was cut", full.byteAt(1), INDEX);
    }
}
