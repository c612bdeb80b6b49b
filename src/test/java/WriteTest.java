import java.util.function.Supplier;

/** Promises 22 to 24: plain, write, written. */
public final class WriteTest {
    private static final int OUTSIDE = -2, STATE = -3, FULL = -4, NONE = -9;
    private static final String TEXT = "let x (b)\n    y do\n      'q\nr' 12\n  in of\nz -\n 7";
    private static final Check check = new Check();

    public static void main(String[] args) {
        check.runAll(WriteTest.class);
    }

    private static void plain(String text, String want) {
        Run x = Run.afterRead(text);
        check.due("plain() of [" + text + "]", x.plain(), want.length());
        check.due("page of [" + text + "]", x.page(), want);
    }

    private static void anew(String text, int n, String want) {
        Run x = Run.afterRead(text);
        check.due("write(" + n + ") of [" + text + "]", x.write(n), want.length());
        check.due("page of [" + text + "]", x.page(), want);
    }

    /** With a page, so that a refused call could be seen to spoil it. */
    private static Run withPage(String text) {
        Run x = Run.afterRead("old do\n page");
        x.plain();
        x.readAnew(text);
        return x;
    }

    private static Run unread() {
        Run x = withPage("a");
        x.feed('b');
        return x;
    }

    // ---- 22

    @Says(promise = 22, value = {"THE TREE is written plainly: TOKENS as they stand,",
        "one blank between any two that follow one another;"})
    private static void tokensAsTheyStand() {
        plain("", "");
        plain("# n\n\n", "");
        plain("a", "a");
        plain("a1'q  r';", "a 1 'q  r' ;");
        plain("a     b # n\n", "a b");
        plain("''''", "'' ''");
        plain("()", "( )");
        plain("a\tb".replace('\t', ' '), "a b");
    }

    @Says(promise = 22, value = "each BLOCK but FLAT and BRACKETED ones between { and },")
    private static void blocksBetweenBraces() {
        plain("do\n a", "do { a }");
        plain("hang a", "hang { a }");
        plain("of a", "of { a }");
        plain("let a", "let { a }");
        plain("of", "of { }");
        plain("let in", "let { } in");
        plain("(a [b])", "( a [ b ] )");
        plain("of = ( [ ] )", "of { = { ( [ ] ) } }");
        plain("a of b = c let d", "a of { b = { c let { d } } }");
        plain("let a of in b", "let { a of { } } in b");
    }

    @Says(promise = 22, value = {"ITEMS of one BLOCK with ; between (of all BLOCKS):",
        "blanks likewise around these three."})
    private static void itemsWithSemicolonsBetween() {
        plain("a\nb\nc", "a ; b ; c");
        plain("do\n a\n b\nc", "do { a ; b } ; c");
        plain("of a\n   b\n   c d", "of { a ; b ; c d }");
        plain("hang a\n     b", "hang { a ; b }");
        plain("let a\n    b\nin c", "let { a ; b } in c");
        plain("(a\nb)", "( a b )");
        plain("a1 ; ;\nb", "a 1 ; ; ; b");
        plain(TEXT, "let { x ( b ) ; y do { 'q\nr' 12 } } in of { } ; z - 7");
        plain("a of\nb", "a of { } ; b");
        plain("()\n()", "( ) ; ( )");
    }

    @Says(promise = 22, value = "How many bytes.")
    private static void plainAnswersHowManyBytes() {
        check.due("none", Run.afterRead("").plain(), 0);
        check.due("one", Run.afterRead("a").plain(), 1);
        check.due("as a text of one token", Run.afterRead("'" + "x".repeat(598) + "'").plain(), 600);
        check.due("many tokens", Run.afterRead(";".repeat(600)).plain(), 1199);
        Supplier<Run> longest = () -> {
            Run x = Run.afterRead("=".repeat(600));
            x.plain();
            return x;
        };
        check.due("the longest", Run.afterRead("=".repeat(600)).plain(), 3599);
        check.due("all of it", Check.longPage(longest, 3600), "= { ".repeat(600) + "}" + " }".repeat(599));
        check.due("none behind it", longest.get().written(3599), NONE);
    }

    @Says(promise = 22, value = "STATE.")
    private static void plainWithoutAReading() {
        check.due("a new object", new Run().plain(), STATE);
        check.due("not read", Run.withText("a").plain(), STATE);
        check.refused("read no more", WriteTest::unread, x -> x.plain(), STATE);
        for (String text : new String[] {"a {", "a\tb", "do a", "a\n b", "a )", "a ("}) {
            check.refused("a fault in [" + text + "]", () -> withPage(text), x -> x.plain(), STATE);
        }
    }

    @Says(promise = 22, value = "(A byte 10 within a QUOTE stays.)")
    private static void aByteTenWithinAQuoteStays() {
        plain("a '\n' b", "a '\n' b");
        plain("'a\n\n  b'\nc", "'a\n\n  b' ; c");
        plain("do\n '\n'", "do { '\n' }");
    }

    // ---- 23

    @Says(promise = 23, value = {"THE TREE is written anew, LINES begun by so many blanks as told",
        "and ended by a byte 10 (the last one, too):"})
    private static void linesEndedByAByteTen() {
        anew("", 1, "");
        anew("# n\n", 1, "");
        anew("a", 1, "a\n");
        anew("a\n", 1, "a\n");
        anew("a\nb", 1, "a\nb\n");
        anew("do\n a", 1, "do\n  a\n");
        anew("'a\n'", 1, "'a\n'\n");
    }

    @Says(promise = 23, value = "each ITEM of FLAT begins one at 0;")
    private static void itemsOfFlatBeginAtNought() {
        anew("a   b # n\n\nc", 3, "a b\nc\n");
        anew("do\n a\nb", 8, "do\n" + " ".repeat(16) + "a\nb\n");
        anew("of a = b\nc\nd", 1, "of\n  a =\n    b\nc\nd\n");
    }

    @Says(promise = 23, value = {"each ITEM of a DEEPER, HUNG, LISTED, LET BLOCK begins one at 2 n (n 1 .. 8) more",
        "than the LINE that was begun last ahead of that BLOCK;"})
    private static void itemsOfBlocksBeginTwiceNMore() {
        for (int n = 1; n <= 8; n++) {
            String one = "\n" + " ".repeat(2 * n);
            String two = "\n" + " ".repeat(4 * n);
            anew("do\n a\n b", n, "do" + one + "a" + one + "b\n");
            anew("hang a\n     b", n, "hang" + one + "a" + one + "b\n");
            anew("of a\n   b", n, "of" + one + "a" + one + "b\n");
            anew("let a\n    b", n, "let" + one + "a" + one + "b\n");
            anew("x of y = z\n     w", n, "x of" + one + "y =" + two + "z" + one + "w\n");
        }
        anew("of a = b\n    c = d", 1, "of\n  a =\n    b\n   c =\n     d\n");
        anew("let a of b\n    c in do\n     d", 2, "let\n    a of\n        b\n    c\nin do\n    d\n");
        anew("a of 'x\ny' b", 1, "a of\n  'x\ny' b\n");
    }

    @Says(promise = 23, value = {"a TOKEN right behind such a BLOCK (not an EMPTY one) in its ITEM",
        "begins one at what the LINE has that was begun with that ITEM,"})
    private static void aTokenBehindABlockBeginsALine() {
        anew("let a\nin b", 1, "let\n  a\nin b\n");
        anew("x let a in b", 4, "x let\n" + " ".repeat(8) + "a\nin b\n");
        anew("do\n let a\n in b\n c", 1, "do\n  let\n    a\n  in b\n  c\n");
        anew("hang let a in b", 1, "hang\n  let\n    a\n  in b\n");
        anew("let a in let b in c", 1, "let\n  a\nin let\n  b\nin c\n");
        anew("let in x", 1, "let in x\n");
        anew("let in let a in b", 1, "let in let\n  a\nin b\n");
        anew("a of", 1, "a of\n");
        anew("a of\nb", 1, "a of\nb\n");
        anew("let a of in b", 1, "let\n  a of\nin b\n");
        anew("let x (a) in y", 1, "let\n  x ( a )\nin y\n");
    }

    @Says(promise = 23, value = "and n more, if the ITEM is of LISTED, LET.")
    private static void andNMoreInListedOrLet() {
        anew("of a do\n     x\n    y", 2, "of\n    a do\n        x\n      y\n");
        anew("let a do\n      x\n     y in z", 1, "let\n  a do\n    x\n   y\nin z\n");
        anew("let let x in in y", 1, "let\n  let\n    x\n   in\nin y\n");
        anew("of a = b\n    c = d\n    e", 1, "of\n  a =\n    b\n   c =\n     d\n   e\n");
        anew("of let a in b\n   c", 8, "of\n" + " ".repeat(16) + "let\n" + " ".repeat(32) + "a\n" + " ".repeat(24)
                + "in b\n" + " ".repeat(16) + "c\n");
    }

    @Says(promise = 23, value = {"Else TOKENS stand behind one blank.", "(An ITEM of a BRACKETED BLOCK begins no LINE.)"})
    private static void elseBehindOneBlank() {
        anew("( a [ ] )b", 4, "( a [ ] ) b\n");
        anew("(a\nb\nc)\nd", 1, "( a b c )\nd\n");
        anew("()", 1, "( )\n");
        anew("a -\nb   7'q'", 1, "a - b 7 'q'\n");
        anew("of (a\nb) c", 1, "of\n  ( a b ) c\n");
    }

    @Says(promise = 23, value = "How many bytes.")
    private static void writeAnswersHowManyBytes() {
        check.due("none", Run.afterRead("").write(1), 0);
        check.due("two", Run.afterRead("a").write(8), 2);
        check.due("600 lines of one byte are 1200", Run.afterRead("a\n".repeat(300)).write(1), 600);
        String[] texts = {TEXT, "of a do\n     x\n    y", "let let x in in y", "hang a = b\n         c\nd", "a -\nb",
            "let x of\n    y = z\n      w\nin (a\nb) in do\n c"};
        for (String text : texts) {
            for (int n = 1; n <= 8; n++) {
                Run x = Run.afterRead(text);
                x.keep();
                int bytes = x.write(n);
                String page = x.page();
                check.due("bytes of [" + text + "] by " + n, bytes, page.length());
                check.due("read again [" + page + "]", x.readAnew(page) >= 0 ? 1 : 0, 1);
                check.due("the same tree [" + page + "]", x.same(), 1);
                check.due("written again [" + page + "]", x.write(n), page.length());
            }
        }
    }

    @Says(promise = 23, value = "OUTSIDE;")
    private static void aStepOutside() {
        for (int n = -2; n <= 11; n++) {
            boolean fits = n >= 1 && n <= 8;
            check.due("write(" + n + ")", Run.afterRead("a").write(n), fits ? 2 : OUTSIDE);
            check.due("not read: write(" + n + ")", Run.withText("a").write(n), fits ? STATE : OUTSIDE);
            check.due("a fault: write(" + n + ")", Run.afterRead("a )").write(n), fits ? STATE : OUTSIDE);
        }
        for (int n : new int[] {0, 9, Integer.MIN_VALUE, Integer.MAX_VALUE}) {
            check.refused("write(" + n + ")", () -> withPage("a"), x -> x.write(n), OUTSIDE);
        }
    }

    @Says(promise = 23, value = "STATE: not read, a FAULT;")
    private static void writeWithoutAReading() {
        check.due("a new object", new Run().write(1), STATE);
        check.due("not read", Run.withText("a").write(1), STATE);
        check.refused("read no more", WriteTest::unread, x -> x.write(1), STATE);
        for (String text : new String[] {"a {", "a\tb", "do a", "a\n b", "a )", "a ("}) {
            check.refused("a fault in [" + text + "]", () -> withPage(text), x -> x.write(1), STATE);
        }
    }

    @Says(promise = 23, value = "an EMPTY BLOCK has a TOKEN right behind it in its ITEM that is no CLOSER;")
    private static void aTokenBehindAnEmptyBlock() {
        check.refused("a word", () -> withPage("of a -\nof b"), x -> x.write(1), STATE);
        check.refused("a mark", () -> withPage("of a -\nof ; c"), x -> x.write(1), STATE);
        check.refused("an opener", () -> withPage("of a -\n= hang\n   b"), x -> x.write(1), STATE);
        check.refused("in a block below", () -> withPage("of = a -\n = b"), x -> x.write(1), STATE);
        check.refused("one of several", () -> withPage("of a -\nof b\nc"), x -> x.write(8), STATE);
        check.refused("a head that goes on", () -> withPage("of\n   a -\nof -\n b"), x -> x.write(1), STATE);
        anew("of a -\nlet in", 1, "of\n  a - let in\n");
        anew("of in b", 1, "of in b\n");
        anew("let in", 2, "let in\n");
        anew("of\nb", 1, "of\nb\n");
        anew("of", 1, "of\n");
        anew("do\n of\n b", 1, "do\n  of\n  b\n");
        check.due("no bar to plain", Run.afterRead("of a -\nof b").plain(), 19);
    }

    /** Twenty-one blocks, and a quote of so many bytes in the last one. */
    private static Run deep(int quote) {
        return withPage("=".repeat(21) + "'" + "x".repeat(quote - 2) + "'");
    }

    @Says(promise = 23, value = "FULL: above 4000.")
    private static void aPageAboveFourThousand() {
        check.due("3999", deep(260).write(8), 3999);
        check.due("4000", deep(261).write(8), 4000);
        check.refused("4001", () -> deep(262), x -> x.write(8), FULL);
        check.refused("4002", () -> deep(263), x -> x.write(8), FULL);
        check.due("fewer blanks", deep(262).write(7), 4001 - 2 * 231);
        StringBuilder want = new StringBuilder();
        for (int i = 0; i < 21; i++) {
            want.append(" ".repeat(16 * i)).append("=\n");
        }
        want.append(" ".repeat(16 * 21)).append("'").append("x".repeat(259)).append("'\n");
        Supplier<Run> full = () -> {
            Run x = deep(261);
            x.write(8);
            return x;
        };
        check.due("all of it", Check.longPage(full, 4000), want.toString());
        check.refused("the deepest", () -> withPage("=".repeat(600)), x -> x.write(8), FULL);
        check.refused("the deepest by 1", () -> withPage("=".repeat(600)), x -> x.write(1), FULL);
    }

    // ---- 24

    @Says(promise = 24, value = "Byte i of what was written last by plain(), write() (0 .. 3999);")
    private static void bytesOfWhatWasWrittenLast() {
        Run x = Run.afterRead("a '\u00c8' do\n b");
        x.plain();
        check.due("plainly", x.page(), "a '\u00c8' do { b }");
        check.due("a great byte", x.written(3), 0xc8);
        x.write(1);
        check.due("anew", x.page(), "a '\u00c8' do\n  b\n");
        x.plain();
        check.due("plainly again", x.page(), "a '\u00c8' do { b }");
        x.cut(0);
        check.due("whatever becomes of the text", x.page(), "a '\u00c8' do { b }");
        x.read();
        check.due("or of the reading", x.written(0), 'a');
        x.feedAll("c");
        x.read();
        x.plain();
        check.due("a shorter one", x.page(), "c");
        Run full = deep(261);
        full.write(8);
        check.due("3998", full.written(3998), '\'');
        check.due("3999", full.written(3999), 10);
    }

    @Says(promise = 24, value = "Byte i of what was written last by plain(), write() (0 .. 3999);")
    private static void onePageIsInsteadOfTheOneBefore() {
        String[] texts = {"a of b = c", "d", "", "e do\n f", "of a -\nof b", "=".repeat(100), "g", "let h in i"};
        String[] plain = {"a of { b = { c } }", "d", "", "e do { f }", "of { a - of { } b }", null, "g", "let { h } in i"};
        String[] anew = {"a of\n  b =\n    c\n", "d\n", "", "e do\n  f\n", null, null, "g\n", "let\n  h\nin i\n"};
        for (int first = 0; first < 3; first++) {
            Run x = Run.withBook();
            String shown = "";
            for (int i = 0; i < texts.length; i++) {
                x.readAnew(texts[i]);
                boolean plainly = first == 1 || first == 2 && i % 2 == 0;
                String due = plainly ? plain[i] : anew[i];
                int got = plainly ? i == 5 ? 0 : x.plain() : x.write(1);
                if (due != null) {
                    check.due("bytes of page " + i, got, due.length());
                    shown = due;
                }
                check.due("page " + i, x.page(), shown);
            }
        }
    }

    @Says(promise = 24, value = "NONE.")
    private static void noByteThere() {
        check.due("at first", new Run().written(0), NONE);
        check.due("read but not written", Run.afterRead("a").written(0), NONE);
        Run x = Run.afterRead("a b");
        x.plain();
        check.due("the last one", x.written(2), 'b');
        for (int i : new int[] {-1, 3, 4, 3999, 4000, 4001, Integer.MIN_VALUE, Integer.MAX_VALUE}) {
            check.due("written(" + i + ")", x.written(i), NONE);
        }
        x.write(1);
        check.due("one more anew", x.written(3), 10);
        check.due("none behind it", x.written(4), NONE);
        x.readAnew("");
        x.plain();
        check.due("nothing was written last", x.written(0), NONE);
        Run full = deep(261);
        full.write(8);
        check.due("4000 of 4000", full.written(4000), NONE);
        check.due("-1 of 4000", full.written(-1), NONE);
    }
}
