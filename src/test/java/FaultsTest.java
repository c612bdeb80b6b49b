/** 'Terms', 4 FAULTS: their kinds, which one comes first, and their places. */
public final class FaultsTest {
    private static final Check check = new Check();

    public static void main(String[] args) {
        check.runAll(FaultsTest.class);
    }

    private static void fault(String text, int kind, int place) {
        check.tree(text, kind + "@" + place);
    }

    @Says(promise = 0, value = {"==== 4 FAULTS:", "1 BYTE (no TOKEN: at its first byte;"})
    private static void byteIsAtTheFirstByteOfWhatIsNoToken() {
        fault("a {", 1, 2);
        fault("a  abcdefghi", 1, 3);
        fault("a  1234567890 b", 1, 3);
        fault("}", 1, 0);
        fault("abcdefgh Z", 1, 9);
        fault("a\n\u00ff", 1, 2);
        fault("x".repeat(8) + " ".repeat(591) + "~", 1, 599);
        fault("{}", 1, 0);
        for (int b = 1; b < 256; b++) {
            boolean mark = "!\"$%&()*+,-./:;<=>?@[]^_|".indexOf(b) >= 0;
            boolean fine = mark || b == '#' || b >= 'a' && b <= 'z' || b >= '0' && b <= '9' || b == ' ' || b == '\n';
            Run x = new Run();
            x.feed(b);
            x.read();
            check.due("fault of byte " + b, x.fault(0), fine ? 0 : b == 9 ? 2 : 1);
        }
    }

    @Says(promise = 0, value = "of a QUOTE that has no end: its ', too),")
    private static void aQuoteWithoutAnEndIsAtItsBeginning() {
        fault("'", 1, 0);
        fault("a '", 1, 2);
        fault("a 'bc\nd", 1, 2);
        fault("'a' 'b", 1, 4);
        fault("'''", 1, 2);
        fault("a '{\n", 1, 2);
        fault(" ".repeat(599) + "'", 1, 599);
    }

    @Says(promise = 0, value = "2 TAB (at the byte 9),")
    private static void tabIsAtTheByteNine() {
        fault("\t", 2, 0);
        fault("a b\tc", 2, 3);
        fault("a\n\tb\t", 2, 2);
        fault("'a\tb'", 2, 2);
        fault("# \t", 2, 2);
        fault(" ".repeat(599) + "\t", 2, 599);
    }

    @Says(promise = 0, value = "3 WANTED, 4 IN, 5 CLOSE (at the TOKEN), 6 OPEN.")
    private static void othersAreAtTheToken() {
        fault("do abc", 3, 3);
        fault("do\n\n  in", 3, 6);
        fault("a\n   bcd", 4, 5);
        fault("a\n\n# n\n 'q'", 4, 8);
        fault("abc   )", 5, 6);
        fault("ab ( c", 6, 3);
    }

    @Says(promise = 0, value = "BYTE and TAB, whichever is first, come ahead of all others;")
    private static void byteAndTabComeFirst() {
        fault("{\t", 1, 0);
        fault("\t{", 2, 0);
        fault("a { \t", 1, 2);
        fault("a \t {", 2, 2);
        fault("'a\tb", 1, 0);
        fault("a \t'b", 2, 2);
        fault("abcdefghi\t", 1, 0);
        fault("\tabcdefghi", 2, 0);
        fault("a\n b {", 1, 5);
        fault("a )\t", 2, 3);
        fault("do b \t", 2, 5);
        fault("( {", 1, 2);
        fault("do {", 1, 3);
        fault(") '", 1, 2);
        Run x = Run.withText("a )\t{");
        x.tab(1);
        check.due("with a tab the byte is first", x.read(), -104);
    }

    @Says(promise = 0, value = "else it is the first that is met.")
    private static void elseTheFirstThatIsMet() {
        fault("a ) ) (", 5, 2);
        fault("a\n b )", 4, 3);
        fault("( ] a", 5, 2);
        fault("do a )", 3, 3);
        fault("a )\n b", 5, 2);
        fault("a\n b\n  c", 4, 3);
        fault("(a ] do", 5, 3);
        fault("( a\n do", 6, 0);
    }

    @Says(promise = 0, value = "PLACE: the byte (the end: how many).")
    private static void placeIsTheByteOrHowMany() {
        fault("a )", 5, 2);
        fault("a do", 3, 4);
        fault("a do\n", 3, 5);
        fault("a do # x", 3, 8);
        fault("a :" + "\n".repeat(597), 3, 600);
        Run x = Run.withText("do");
        x.read();
        check.due("the end is how many bytes", x.fault(1), x.count(4));
    }
}
