/** Promises 12 and 13: read, fault, with the terms THE TEXT, THE TREE and FAULTS that they lean on. */
public final class ReadTest {
    private static final int OUTSIDE = IndentReader.OUTSIDE, NONE = IndentReader.NONE;
    private static final Check check = new Check();

    public static void main(String[] args) {
        tokens();
        bytesThatAreNoTokens();
        tabs();
        faultsOfBytesComeFirst();
        trees();
        deeperBlocks();
        lists();
        lets();
        brackets();
        goersAndQuotes();
        emptyBlocks();
        placesOfFaults();
        faultOfTheLatestRead();
        check.end();
    }

    private static void tree(String text, String want) {
        check.due("tree of [" + text + "]", Check.treeOf(text), want);
    }

    private static void reads(String text, int want) {
        check.due("read() of [" + text + "]", Check.withText(text).read(), want);
    }

    private static void tokens() {
        reads("", 0);
        reads(" \n\n", 0);
        reads("# a note", 0);
        reads("abcdefgh", 1);
        reads("123456789", 1);
        reads("abcdefgh123456789", 2);
        reads("a1b", 3);
        reads("a''b", 3);
        reads("a!\"$%&*+,./;<>?@^_|", 19);
        reads("'a b # { \u00c8 \n\n c'", 1);
        reads("a # 'b { \u00c8\nc", 2);
        reads("a#b", 1);
        reads("'''a'", 2);
        reads("''''", 2);
    }

    private static void bytesThatAreNoTokens() {
        reads("abcdefghi", -100);
        reads("a abcdefghi", -102);
        reads("a 1234567890", -102);
        reads("a {", -102);
        reads("}", -100);
        reads("A", -100);
        reads("aB", -101);
        reads("\u00c8", -100);
        reads("a\r\nb", -101);
        reads("~", -100);
        reads("\\", -100);
        reads("`", -100);
        reads("\u007f", -100);
        reads("a '", -102);
        reads("a 'bc\nd", -102);
        reads("'a' 'b", -104);
        for (int b = 1; b < 256; b++) {
            boolean mark = "!\"$%&()*+,-./:;<=>?@[]^_|".indexOf(b) >= 0;
            boolean fine = mark || b == '#' || b >= 'a' && b <= 'z' || b >= '0' && b <= '9'
                    || b == ' ' || b == '\n';
            IndentReader x = new IndentReader();
            x.feed(b);
            x.read();
            int want = fine ? 0 : b == 9 ? 2 : 1;
            check.due("fault of byte " + b, x.fault(0), want);
        }
    }

    private static void tabs() {
        tree("a\tb", "2@1");
        tree("\t", "2@0");
        tree("'a\tb'", "2@2");
        tree("# \t", "2@2");
        IndentReader x = Check.withText("a do\n\tb\n    c\n  \td");
        x.tab(4);
        check.due("tabs and blanks", x.read(), 5);
        x.plain();
        check.due("at one column", Check.pageOf(x), "a do { b ; c ; d }");
        x.tab(5);
        check.due("other tabs", x.read(), -112);
        check.due("in", x.fault(0), 4);
    }

    private static void faultsOfBytesComeFirst() {
        tree("a\n b {", "1@5");
        tree("a )\t", "2@3");
        tree("( {", "1@2");
        tree("{\t", "1@0");
        tree("\t{", "2@0");
        tree("'a\tb", "1@0");
        tree("a \t'b", "2@2");
        tree("abcdefghi\t", "1@0");
        tree("{}", "1@0");
        tree("a ) ) (", "5@2");
    }

    private static void trees() {
        tree("", "");
        tree("a b\nc", "a b ; c");
        tree("\n\n  # n\na", "a");
        tree(" a", "4@1");
        tree("a\n b", "4@3");
        tree("a # do ( '\nb", "a ; b");
        tree("a  b   7 'q'", "a b 7 'q'");
    }

    private static void deeperBlocks() {
        tree("a do\n  b\n  c\nd", "a do { b ; c } ; d");
        tree("a:\n b", "a : { b }");
        tree("a do\nb", "3@5");
        tree("a do b", "3@5");
        tree("a do", "3@4");
        tree("a do\n", "3@5");
        tree("a do # x", "3@8");
        tree("a do\n  b do\n    c\nd", "a do { b do { c } } ; d");
        tree("a do\n  b do\n  c", "3@14");
        tree("a do\n  b\n c", "4@10");
        tree("a do\n  b\n   c", "4@12");
        tree("of a\n    b do\n    c", "3@18");
        tree("of a\n    b do\n     c", "of { a b do { c } }");
        tree("do )", "3@3");
        tree("do\n )", "3@4");
        tree("do\n in", "3@4");
        tree("let x do\n         in", "3@18");
        tree("do\n (a)", "do { ( a ) }");
        tree("a do\n  b\n do\n   c", "4@10");
    }

    private static void lists() {
        tree("of a\n   b", "of { a ; b }");
        tree("of a\n    b", "of { a b }");
        tree("of a\n  b", "4@7");
        tree("of a\nb", "of { a } ; b");
        tree("of\n a\n b", "of { a ; b }");
        tree("hang a\n     b", "hang { a ; b }");
        tree("hang a\n      b", "4@13");
        tree("hang a do\n       b", "hang { a do { b } }");
        tree("of = a", "of { = { a } }");
        tree("of a = b\n       c\n   d", "of { a = { b ; c } ; d }");
        tree("of a do\n     x\n    y", "of { a do { x } y }");
        tree("of a = b\n    c", "of { a = { b } c }");
    }

    private static void lets() {
        tree("let x\n    y\nin z", "let { x ; y } in z");
        tree("let x in y", "let { x } in y");
        tree("let x\n      y\n    z", "let { x y ; z }");
        tree("let let x in in y", "let { let { x } in } in y");
        tree("let x of y in z", "let { x of { y } } in z");
        tree("let x (in) in y", "let { x ( in ) } in y");
        tree("do\n  let x\n  in y\n  z", "do { let { x } in y ; z }");
        tree("let x\n        in y", "let { x } in y");
        tree("in x", "in x");
        tree("a in\nin", "a in ; in");
        tree("let x in in", "let { x } in in");
        tree("a\n in", "4@3");
        tree("of a in b", "of { a in b }");
        tree("let of x do\n         y\n in z", "let { of { x do { y } } } in z");
    }

    private static void brackets() {
        tree("(a\nb)", "( a b )");
        tree("(a\n   b)\nc", "( a b ) ; c");
        tree("()", "( )");
        tree("([a](b))", "( [ a ] ( b ) )");
        tree("a )", "5@2");
        tree("(a]", "5@2");
        tree("([a)]", "5@3");
        tree("((a)", "6@0");
        tree("a (b [c", "6@2");
        tree("(do x)", "( do x )");
        tree("(do)\na", "( do ) ; a");
        tree("(a of)\nb", "( a of ) ; b");
        tree("(of", "6@0");
        tree("(do", "6@0");
        tree("a do\n  (\nb\n)\n  c", "a do { ( b ) ; c }");
        tree("of (a\n)\n   b", "of { ( a ) ; b }");
        tree("(a\n)", "( a )");
        tree("a do\n  b )", "5@9");
    }

    private static void goersAndQuotes() {
        tree("a -\n  b", "a - b");
        tree("a -\nb\nc", "a - b ; c");
        tree("a -\n\n# n\n  b", "a - b");
        tree("a do\n  b -\nc\n  d", "a do { b - c ; d }");
        tree("(-\n)\nb", "( - ) ; b");
        tree("(-)\nb", "( - ) ; b");
        tree("- a\nb", "- a ; b");
        tree("a 'x\ny' b", "a 'x\ny' b");
        tree("a 'x\n' b\nc", "a 'x\n' b ; c");
        tree("a 'x\n'\nc", "a 'x\n' ; c");
        tree("a do\n  'x\n\n' b\n  c", "a do { 'x\n\n' b ; c }");
        tree("do 'x\n  ' b", "3@3");
        tree("a\n'x'\n 'y'", "4@7");
    }

    private static void emptyBlocks() {
        tree("of", "of { }");
        tree("a of\n", "a of { }");
        tree("of\nx", "of { } ; x");
        tree("let in x", "let { } in x");
        tree("let", "let { }");
        tree("of )", "5@3");
        tree("(of )", "( of )");
        tree("let x of in y", "let { x of { } } in y");
        tree("let let in x", "let { let { } } in x");
        tree("do\n  of\n  x", "do { of { } ; x }");
        tree("do\n  of\nx", "do { of { } } ; x");
        tree("of a -\nof b", "of { a - of { } b }");
        tree("of = \n   b", "of { = { } ; b }");
        tree("= = =", "= { = { = { } } }");
    }

    private static void faultAt(String text, int tab, int kind, int place, int line, int column) {
        IndentReader x = Check.withText(text);
        x.tab(tab);
        check.due("read() of [" + text + "]", x.read(), -100 - place);
        check.due("kind of [" + text + "]", x.fault(0), kind);
        check.due("place of [" + text + "]", x.fault(1), place);
        check.due("line of [" + text + "]", x.fault(2), line);
        check.due("column of [" + text + "]", x.fault(3), column);
    }

    private static void placesOfFaults() {
        faultAt("a\nb\n  {", 0, 1, 6, 2, 2);
        faultAt("a\nb \t", 0, 2, 4, 1, 2);
        faultAt("a\t{", 4, 1, 2, 0, 4);
        faultAt("a do\n\n b\n\tc", 3, 4, 10, 3, 3);
        faultAt("a do", 0, 3, 4, 0, 4);
        faultAt("a do\n", 0, 3, 5, 1, 0);
        faultAt("a do\n  ", 0, 3, 7, 1, 2);
        faultAt("a do\n\n\n", 0, 3, 7, 3, 0);
        faultAt("a do \t", 4, 3, 6, 0, 8);
        faultAt("a do\t", 4, 3, 5, 0, 8);
        faultAt("a\nb )", 0, 5, 4, 1, 2);
        faultAt("a\nb ( [ c\nd", 0, 6, 4, 1, 2);
        faultAt("a 'b\nc", 0, 1, 2, 0, 2);
        faultAt("a do\n\tb\n\n\t c", 8, 4, 11, 3, 9);
    }

    private static void faultOfTheLatestRead() {
        IndentReader x = Check.withText("a\n b");
        check.due("none was read", x.fault(0), 0);
        for (int what = 1; what < 4; what++) {
            check.due("none was read: " + what, x.fault(what), NONE);
        }
        check.due("outside, not read", x.fault(4), OUTSIDE);
        x.read();
        check.due("in", x.fault(0), 4);
        check.due("outside", x.fault(4), OUTSIDE);
        check.due("below", x.fault(-1), OUTSIDE);
        x.cut(0);
        check.due("of the latest read, though the text is another one", x.fault(0), 4);
        check.due("with its place", x.fault(1), 3);
        check.due("with its line", x.fault(2), 1);
        check.due("with its column", x.fault(3), 1);
        x.read();
        check.due("none now", x.fault(0), 0);
        for (int what = 1; what < 4; what++) {
            check.due("none now: " + what, x.fault(what), NONE);
        }
    }
}
