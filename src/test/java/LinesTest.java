/** 'Terms', 2 THE TEXT: its bytes, lines, columns, blanks, tokens and heads. */
public final class LinesTest {
    private static final int UNKNOWN = -1, FULL = -4, INDEX = -12;
    private static final Check check = new Check();

    public static void main(String[] args) {
        check.runAll(LinesTest.class);
    }

    @Says(promise = 0, value = "==== 2 THE TEXT is 600 bytes at most.")
    private static void sixHundredBytesAtMost() {
        Run x = new Run();
        check.due("600", x.feedAll("ab cd\n".repeat(100)), 600);
        check.due("tokens of all of them", x.read(), 200);
        check.due("the last byte", x.byteAt(599), 10);
        check.due("one more", x.feed('a'), FULL);
        check.due("one more by a shift", x.shift(0, 1), FULL);
        check.due("still read", x.count(0), 200);
        check.due("600 tokens", Run.afterRead("a;".repeat(300)).count(0), 600);
        check.due("300 lines", Run.withText("a\n".repeat(300)).count(3), 300);
        check.due("600 lines", Run.withText("\n".repeat(600)).count(3), 600);
    }

    private static void lines(String text, int want) {
        check.due("lines of [" + text + "]", Run.withText(text).count(3), want);
    }

    @Says(promise = 0, value = "LINES 0, 1, .. end with a byte 10, the last one may do without (an empty TEXT has none).")
    private static void linesEndWithAByteTen() {
        lines("", 0);
        lines("a", 1);
        lines(" ", 1);
        lines("a\n", 1);
        lines("\n", 1);
        lines("\n\n", 2);
        lines("a\nb", 2);
        lines("a\nb\n", 2);
        lines("a\n ", 2);
        lines("a\r", 1);
        lines("'\n'", 2);
        lines("# a\n", 1);
    }

    @Says(promise = 0, value = "LINES 0, 1, .. end with a byte 10, the last one may do without (an empty TEXT has none).")
    private static void theLastLineIsTheLastThatIsKnown() {
        check.due("none in an empty text", Run.withText("").shift(0, 0), UNKNOWN);
        check.due("0 of one", Run.withText("a").shift(0, 0), 1);
        check.due("1 of one", Run.withText("a").shift(1, 0), UNKNOWN);
        check.due("0 of one ended", Run.withText("a\n").shift(0, 0), 1);
        check.due("1 of one ended", Run.withText("a\n").shift(1, 0), UNKNOWN);
        check.due("1 of two", Run.withText("a\nb").shift(1, 0), 1);
        check.due("2 of two", Run.withText("a\nb").shift(2, 0), UNKNOWN);
        check.due("1 of two without bytes", Run.withText("\n\n").shift(1, 0), 1);
        check.due("2 of two without bytes", Run.withText("\n\n").shift(2, 0), UNKNOWN);
        Run x = Run.afterRead("a\n\nb\nc");
        check.due("line of a", x.token(0, 3), 0);
        check.due("line of b", x.token(1, 3), 2);
        check.due("line of c", x.token(2, 3), 3);
    }

    @Says(promise = 0, value = {"COLUMNS of a LINE: its bytes stand at 0, 1, .. one behind the other,",
        "but the one behind a byte 9 at the next multiple of TAB;"})
    private static void behindAByteNineTheNextMultipleOfTab() {
        for (int tab = 1; tab <= 8; tab++) {
            for (int ahead = 0; ahead <= 17; ahead++) {
                Run x = Run.afterRead("a\n" + "'".repeat(ahead / 2 * 2) + (ahead % 2 == 0 ? "" : "b") + "\t-", tab);
                int want = (ahead / tab + 1) * tab;
                int last = x.count(0) - 1;
                int column = last >= 0 ? x.token(last, 4) : x.fault(3);
                check.due("behind " + ahead + " bytes by " + tab, column, want);
            }
        }
    }

    @Says(promise = 0, value = {"COLUMNS of a LINE: its bytes stand at 0, 1, .. one behind the other,",
        "but the one behind a byte 9 at the next multiple of TAB;"})
    private static void columnsOfALine() {
        Run x = Run.afterRead("a\tb\t\tcde\tf\n12 ' \t' g", 4);
        int[] columns = {0, 4, 12, 16, 0, 3, 10};
        for (int k = 0; k < columns.length; k++) {
            check.due("column of token " + k, x.token(k, 4), columns[k]);
        }
        Run three = Run.afterRead("a\tb\t\tcde\tf", 3);
        check.due("b by 3", three.token(1, 4), 3);
        check.due("cde by 3", three.token(2, 4), 9);
        check.due("f by 3, from a multiple on", three.token(3, 4), 15);
        Run one = Run.afterRead("a\t\tb", 1);
        check.due("by 1 as a blank", one.token(1, 4), 3);
        Run plain = Run.afterRead("a" + " ".repeat(597) + "b");
        check.due("column 598", plain.token(1, 4), 598);
        Run far = Run.afterRead("a" + "\t".repeat(598) + "b", 8);
        check.due("column 4784", far.token(1, 4), 598 * 8);
        check.tree("a\n\n  \nb", "a ; b");
    }

    @Says(promise = 0, value = "with TAB 0 a byte 9 is a FAULT.")
    private static void withTabNoughtAByteNineIsAFault() {
        String[] texts = {"\t", "a\tb", "a\n\tb", "a\t", "'a\tb'", "a # \t"};
        for (String text : texts) {
            Run x = Run.withText(text);
            check.due("read of [" + text + "]", x.read(), -100 - text.indexOf('\t'));
            check.due("fault of [" + text + "]", x.fault(0), 2);
            x.tab(1);
            x.read();
            check.due("none with tab 1 of [" + text + "]", x.fault(0) == 2 ? 1 : 0, 0);
            x.tab(0);
            x.read();
            check.due("again with tab 0 of [" + text + "]", x.fault(0), 2);
        }
    }

    @Says(promise = 0, value = "Between TOKENS may stand blanks (32, 9, 10).")
    private static void blanksBetweenTokens() {
        for (int b = 1; b < 256; b++) {
            Run x = Run.afterRead("(a" + (char) b + "b)", 1);
            boolean blank = b == 32 || b == 9 || b == 10;
            check.due("whether byte " + b + " parts words as a blank", x.count(0) == 4 && x.token(2, 1) == 3 ? 1 : 0,
                    blank ? 1 : 0);
        }
        check.due("none", Run.afterRead("a;b").count(0), 3);
        check.due("many", Run.afterRead("(a \n\n  \n b)").count(0), 4);
        check.due("blanks alone", Run.afterRead(" \n \n").count(0), 0);
        check.due("600 of them", Run.afterRead(" ".repeat(600)).count(0), 0);
        check.due("they part", Run.afterRead("12 34").count(0), 2);
        check.due("byte 13 is none", Run.afterRead("a\r\n").fault(1), 1);
    }

    @Says(promise = 0, value = "TOKENS are 0, 1, ..;")
    private static void tokensAreNumberedInOrder() {
        Run x = Run.afterRead("a 7 'q' (b)");
        int[] places = {0, 2, 4, 8, 9, 10};
        for (int k = 0; k < places.length; k++) {
            check.due("place of " + k, x.token(k, 1), places[k]);
        }
        check.due("none behind the last", x.token(6, 1), UNKNOWN);
        check.due("none ahead of the first", x.token(-1, 1), UNKNOWN);
    }

    private static void heads(String text, String want) {
        Run x = Run.afterRead(text, 4);
        StringBuilder got = new StringBuilder();
        for (int k = 0; k < x.count(0); k++) {
            got.append(x.token(k, 5));
        }
        check.due("heads of [" + text + "]", got.toString(), want);
    }

    @Says(promise = 0, value = "a HEAD is a TOKEN with which its LINE begins (but for blanks;")
    private static void aHeadBeginsItsLine() {
        heads("a", "1");
        heads("a b\nc d", "1010");
        heads("\n\na", "1");
        heads("do\n    a\n\tb", "111");
        heads("do\n  \ta\n \tb", "111");
        heads("7\n'q'\n;", "111");
        heads("# n\na # n\nb", "11");
        heads("let a\nin b", "1010");
    }

    @Says(promise = 0, value = "nothing of a QUOTE that began on a LINE ahead is on its LINE),")
    private static void behindAQuoteOfALineAheadThereIsNoHead() {
        heads("'a\nb' c\nd", "101");
        heads("'a\n' c\nd", "101");
        heads("'a\n'\nd", "11");
        heads("'\n\n' 'b\n' c", "100");
        heads("a 'b\n'c\nd", "1001");
        check.tree("a 'x\n' b\nc", "a 'x\n' b ; c");
        check.tree("a 'x\n  y'\nc", "a 'x\n  y' ; c");
    }

    @Says(promise = 0, value = "if the TOKEN ahead of it is no GOER,")
    private static void behindAGoerThereIsNoHead() {
        heads("a -\nb\nc", "1001");
        heads("a -\n\n# n\n  b\nc", "1001");
        heads("-\n-\na\nb", "1001");
        heads("a - b\nc", "1001");
        heads("(-)\na", "1001");
        heads("a ; -\n in\nb", "10001");
        check.tree("a -\n    b\nc", "a - b ; c");
    }

    @Says(promise = 0, value = "and the topmost BLOCK, as it is taken, is not BRACKETED.")
    private static void withinABracketedBlockThereIsNoHead() {
        heads("(\na\n)\nb", "1001");
        heads("(\n)\na", "101");
        heads("(\n)(\na\n)\nb", "100001");
        heads("([\n]\n)\na", "10001");
        heads("do\n (\n a\n )\n b", "11001");
        check.tree("(\n  a\n )\nb", "( a ) ; b");
    }

    @Says(promise = 0, value = "COLUMN of a TOKEN is that of its first byte.")
    private static void columnOfATokenIsThatOfItsFirstByte() {
        Run x = Run.afterRead("ab cde\t'x\ny'  z", 4);
        int[] columns = {0, 3, 8, 4};
        for (int k = 0; k < columns.length; k++) {
            check.due("column of token " + k, x.token(k, 4), columns[k]);
        }
        check.due("line of the quote", x.token(2, 3), 0);
        check.due("line of the one behind it", x.token(3, 3), 1);
        check.due("behind the last byte", x.byteAt(15), INDEX);
    }
}
