/** Promises 22 to 24: plain, write, written. */
public final class WriteTest {
    private static final int OUTSIDE = IndentReader.OUTSIDE, STATE = IndentReader.STATE, FULL = IndentReader.FULL;
    private static final int NONE = IndentReader.NONE;
    private static final String TEXT = "let x (b)\n    y do\n      'q\nr' 12\n  in of\nz -\n 7";
    private static final Check check = new Check();

    public static void main(String[] args) {
        plainly();
        anew();
        anewAndReadAgain();
        tokensBehindEmptyBlocks();
        pagesThatAreFull();
        refusals();
        bytesOfThePage();
        check.end();
    }

    private static void plain(String text, String want) {
        IndentReader x = Check.afterRead(text);
        check.due("plain() of [" + text + "]", x.plain(), want.length());
        check.due("page of [" + text + "]", Check.pageOf(x), want);
    }

    private static void written(String text, int n, String want) {
        IndentReader x = Check.afterRead(text);
        check.due("write(" + n + ") of [" + text + "]", x.write(n), want.length());
        check.due("page of [" + text + "]", Check.pageOf(x), want);
    }

    private static void plainly() {
        plain("", "");
        plain("a", "a");
        plain("a1 ; ;\nb", "a 1 ; ; ; b");
        plain(TEXT, "let { x ( b ) ; y do { 'q\nr' 12 } } in of { } ; z - 7");
        plain("of", "of { }");
        plain("()", "( )");
        plain("of = ( [ ] )", "of { = { ( [ ] ) } }");
        IndentReader x = Check.withText("=".repeat(600));
        x.read();
        check.due("the longest", x.plain(), 3599);
        check.due("its end", x.written(3598), '}');
    }

    private static void anew() {
        written("", 1, "");
        written("a   b # n\n\nc", 3, "a b\nc\n");
        written(TEXT, 1, "let\n  x ( b )\n  y do\n    'q\nr' 12\nin of\nz - 7\n");
        written("of a do\n     x\n    y", 2, "of\n    a do\n        x\n      y\n");
        written("let a do\n      x\n     y in z", 1, "let\n  a do\n    x\n   y\nin z\n");
        written("do\n let a\n in b\n c", 1, "do\n  let\n    a\n  in b\n  c\n");
        written("hang a = b\n         c\nd", 8, "hang\n" + " ".repeat(16) + "a =\n" + " ".repeat(32) + "b\n"
                + " ".repeat(32) + "c\nd\n");
        written("( a [ ] )b", 4, "( a [ ] ) b\n");
        written("of a = b\n    c = d", 1, "of\n  a =\n    b\n   c =\n     d\n");
        written("a of", 1, "a of\n");
        written("let in x", 1, "let in x\n");
        written("of a\nof b", 5, "of\n" + " ".repeat(10) + "a\nof\n" + " ".repeat(10) + "b\n");
        written("a of 'x\ny' b", 1, "a of\n  'x\ny' b\n");
        written("let let x in in y", 1, "let\n  let\n    x\n   in\nin y\n");
    }

    private static void anewAndReadAgain() {
        String[] texts = {TEXT, "of a do\n     x\n    y", "let let x in in y", "hang a = b\n         c\nd", "a -\nb",
            "let x of\n    y = z\n      w\nin (a\nb) in do\n c"};
        for (String text : texts) {
            for (int n = 1; n <= 8; n++) {
                IndentReader x = Check.afterRead(text);
                x.keep();
                x.write(n);
                String page = Check.pageOf(x);
                x.cut(0);
                Check.feed(x, page);
                check.due("read again [" + page + "]", x.read() >= 0 ? 1 : 0, 1);
                check.due("the same tree [" + page + "]", x.same(), 1);
                check.due("write again", x.write(n), page.length());
                check.due("the same page", Check.pageOf(x), page);
            }
        }
    }

    private static void tokensBehindEmptyBlocks() {
        IndentReader x = Check.afterRead("of a -\nof b");
        x.plain();
        check.due("a token behind an empty block", x.write(1), STATE);
        check.due("the page stays", Check.pageOf(x), "of { a - of { } b }");
        check.due("outside ahead of it", x.write(9), OUTSIDE);
        written("let in", 2, "let in\n");
        written("of a -\nlet in", 1, "of\n  a - let in\n");
        written("of\nb", 1, "of\nb\n");
        IndentReader late = Check.afterRead("=".repeat(100) + "a -\n= b");
        check.due("ahead of a full page", late.write(8), STATE);
    }

    private static IndentReader deep(int quote) {
        return Check.afterRead("=".repeat(21) + "'" + "x".repeat(quote - 2) + "'");
    }

    private static void pagesThatAreFull() {
        IndentReader x = deep(261);
        check.due("4000 bytes", x.write(8), 4000);
        check.due("the last one", x.written(3999), 10);
        check.due("none behind it", x.written(4000), NONE);
        IndentReader y = deep(262);
        int plain = y.plain();
        String page = Check.pageOf(y);
        check.due("4001 bytes", y.write(8), FULL);
        check.due("the page stays", Check.pageOf(y), page);
        check.due("as long as it was", page.length(), plain);
        check.due("fewer blanks", y.write(1) > 0 ? 1 : 0, 1);
        check.due("the deepest", Check.afterRead("=".repeat(600)).write(8), FULL);
    }

    private static void refusals() {
        IndentReader x = Check.withText("a");
        check.due("plain, not read", x.plain(), STATE);
        check.due("write, not read", x.write(1), STATE);
        check.due("write(0)", x.write(0), OUTSIDE);
        check.due("write(9)", x.write(9), OUTSIDE);
        check.due("write(-1)", x.write(-1), OUTSIDE);
        x.read();
        check.due("write(0), read", x.write(0), OUTSIDE);
        x.plain();
        x.feed(Check.word(" )"));
        x.read();
        check.due("plain, a fault", x.plain(), STATE);
        check.due("write, a fault", x.write(1), STATE);
        check.due("the page stays", Check.pageOf(x), "a");
    }

    private static void bytesOfThePage() {
        IndentReader x = Check.afterRead("a '\u00c8' b");
        check.due("nothing was written", x.written(0), NONE);
        x.plain();
        check.due("first", x.written(0), 'a');
        check.due("a great byte", x.written(3), 0xc8);
        check.due("last", x.written(6), 'b');
        check.due("behind it", x.written(7), NONE);
        check.due("below 0", x.written(-1), NONE);
        check.due("greatest", x.written(Integer.MAX_VALUE), NONE);
        check.due("least", x.written(Integer.MIN_VALUE), NONE);
        x.write(1);
        check.due("what was written last", x.written(7), 10);
        x.cut(0);
        check.due("whatever becomes of the text", x.written(7), 10);
        x.read();
        x.plain();
        check.due("nothing now", x.written(0), NONE);
    }
}
