/** Promises 7 to 11: feed, cut, shift, keep, byteAt. */
public final class TextTest {
    private static final int UNKNOWN = IndentReader.UNKNOWN, OUTSIDE = IndentReader.OUTSIDE;
    private static final int STATE = IndentReader.STATE, FULL = IndentReader.FULL, INDEX = -12;
    private static final Check check = new Check();

    public static void main(String[] args) {
        feeds();
        feedsUpToTheEnd();
        cuts();
        shifts();
        shiftsThatAreRefused();
        shiftsOfAFullText();
        keeps();
        bytes();
        lines();
        actsOfTheTextUnread();
        refusedActsChangeNothing();
        check.end();
    }

    private static void feeds() {
        IndentReader x = new IndentReader();
        check.due("eight bytes", x.feed(Check.word("abcdefgh")), 8);
        check.due("three bytes", x.feed(Check.word("ijk")), 11);
        check.due("no byte", x.feed(0), 11);
        check.due("bytes behind a 0", x.feed(Check.word("l\0mnopqr")), 12);
        check.due("0 ahead", x.feed(Check.word("\0mnopqrs")), 12);
        check.due("the lowest first", Check.textOf(x), "abcdefghijkl");
        check.due("great bytes", x.feed(-1L), 20);
        check.due("byte 255", x.byteAt(19), 255);
        check.due("byte 128 alone", x.feed(128L), 21);
        check.due("it is 128", x.byteAt(20), 128);
    }

    private static void feedsUpToTheEnd() {
        IndentReader x = new IndentReader();
        for (int i = 1; i <= 74; i++) {
            x.feed(Check.word("12345678"));
        }
        check.due("592 bytes", x.count(4), 592);
        check.due("597 bytes", x.feed(Check.word("abcde")), 597);
        check.due("4 are too many", x.feed(Check.word("fghi")), FULL);
        check.due("nothing came", x.count(4), 597);
        check.due("3 are not", x.feed(Check.word("fgh")), 600);
        check.due("none are not", x.feed(0), 600);
        check.due("1 is", x.feed(Check.word("i")), FULL);
        check.due("the last one", x.byteAt(599), 'h');
        check.due("cut one", x.cut(599), 1);
        check.due("1 is not", x.feed(Check.word("i")), 600);
    }

    private static void cuts() {
        IndentReader x = new IndentReader();
        check.due("none of none", x.cut(0), 0);
        check.due("one of none", x.cut(1), OUTSIDE);
        Check.feed(x, "abcdef");
        check.due("all stay", x.cut(6), 0);
        check.due("below 0", x.cut(-1), OUTSIDE);
        check.due("more than there are", x.cut(7), OUTSIDE);
        check.due("two go", x.cut(4), 2);
        check.due("the first stay", Check.textOf(x), "abcd");
        check.due("all go", x.cut(0), 4);
        check.due("none are left", x.count(4), 0);
        Check.feed(x, "z");
        check.due("new ones come to the beginning", Check.textOf(x), "z");
    }

    private static void shifts() {
        IndentReader x = new IndentReader();
        Check.feed(x, "a\n  b\n\nc");
        check.due("to the right", x.shift(1, 3), 1);
        check.due("three more", Check.textOf(x), "a\n     b\n\nc");
        check.due("to the left", x.shift(1, -5), 1);
        check.due("none left", Check.textOf(x), "a\nb\n\nc");
        check.due("not at all", x.shift(1, 0), 1);
        check.due("as it was", Check.textOf(x), "a\nb\n\nc");
        check.due("first line", x.shift(0, 1), 1);
        check.due("last line", x.shift(3, 2), 1);
        check.due("line of no byte", x.shift(2, 1), 1);
        check.due("all three", Check.textOf(x), " a\nb\n \n  c");
        check.due("the farthest", x.shift(0, 40), 1);
        check.due("back", x.shift(0, -40), 1);
        check.due("all of a last line", x.cut(9), 1);
        check.due("goes", x.shift(3, -2), 1);
        check.due("with the line", x.count(3), 3);
        IndentReader y = new IndentReader();
        Check.feed(y, " \tx");
        check.due("ahead of the line's first byte", y.shift(0, 1), 1);
        check.due("a byte 9 stays", Check.textOf(y), "  \tx");
    }

    private static void shiftsThatAreRefused() {
        IndentReader x = new IndentReader();
        check.due("an empty text has no line", x.shift(0, 1), UNKNOWN);
        Check.feed(x, "a\n  b\n");
        check.due("line 2", x.shift(2, 1), UNKNOWN);
        check.due("line -1", x.shift(-1, 1), UNKNOWN);
        check.due("unknown ahead of outside", x.shift(2, 41), UNKNOWN);
        check.due("by 41", x.shift(1, 41), OUTSIDE);
        check.due("by -41", x.shift(1, -41), OUTSIDE);
        check.due("by the least number", x.shift(1, Integer.MIN_VALUE), OUTSIDE);
        check.due("a third blank", x.shift(1, -3), STATE);
        check.due("a first one", x.shift(0, -1), STATE);
        check.due("nothing changed", Check.textOf(x), "a\n  b\n");
        IndentReader y = new IndentReader();
        Check.feed(y, " \t \n  ");
        check.due("a byte 9 is no such blank", y.shift(0, -2), STATE);
        check.due("nor is the end of the text", y.shift(1, -3), STATE);
        check.due("nor that of a line", y.shift(0, -4), STATE);
    }

    private static void shiftsOfAFullText() {
        IndentReader x = new IndentReader();
        Check.feed(x, " ".repeat(5) + "a".repeat(594));
        check.due("one more", x.shift(0, 1), 1);
        check.due("600 bytes", x.count(4), 600);
        check.due("601 bytes", x.shift(0, 1), FULL);
        check.due("not at all", x.shift(0, 0), 1);
        check.due("six less", x.shift(0, -6), 1);
        check.due("seven more", x.shift(0, 7), FULL);
        check.due("594 bytes", x.count(4), 594);
        check.due("the last one stays", x.byteAt(593), 'a');
    }

    private static void keeps() {
        IndentReader x = Check.afterRead("a b");
        check.due("how many", x.keep(), 3);
        check.due("still read", x.count(0), 2);
        check.due("the same", x.same(), 1);
        x.cut(1);
        x.read();
        check.due("another one by now", x.same(), 0);
        check.due("instead of the one before", x.keep(), 1);
        check.due("the same again", x.same(), 1);
        x.cut(0);
        check.due("none", x.keep(), 0);
    }

    private static void bytes() {
        IndentReader x = new IndentReader();
        check.due("of none", x.byteAt(0), INDEX);
        Check.feed(x, "ab");
        check.due("first", x.byteAt(0), 'a');
        check.due("last", x.byteAt(1), 'b');
        check.due("behind it", x.byteAt(2), INDEX);
        check.due("below 0", x.byteAt(-1), INDEX);
        check.due("greatest", x.byteAt(Integer.MAX_VALUE), INDEX);
        x.cut(1);
        check.due("cut away", x.byteAt(1), INDEX);
    }

    private static void lines() {
        String[] texts = {"", "a", "a\n", "\n", "\n\n", "a\nb", "a\nb\n", "a\n ", "'\n'"};
        int[] lines = {0, 1, 1, 1, 2, 2, 2, 2, 2};
        for (int i = 0; i < texts.length; i++) {
            IndentReader x = Check.withText(texts[i]);
            check.due("lines of [" + texts[i] + "]", x.count(3), lines[i]);
        }
    }

    private static void actsOfTheTextUnread() {
        for (int act = 0; act < 5; act++) {
            IndentReader x = Check.afterRead("a b");
            switch (act) {
                case 0: x.feed(Check.word("c")); break;
                case 1: x.feed(0); break;
                case 2: x.cut(3); break;
                case 3: x.shift(0, 0); break;
                default: x.shift(0, 1); break;
            }
            check.due("read no more by act " + act, x.count(0), STATE);
        }
    }

    private static void refusedActsChangeNothing() {
        IndentReader x = Check.afterRead("a b" + " ".repeat(590));
        x.feed(Check.word("abcdefgh"));
        x.cut(-1);
        x.cut(594);
        x.shift(1, 1);
        x.shift(0, 41);
        x.shift(0, -1);
        x.shift(0, 8);
        check.due("still read", x.count(0), 2);
        check.due("as many bytes", x.count(4), 593);
    }
}
