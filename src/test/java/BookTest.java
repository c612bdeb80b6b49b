/** Promises 1 to 6: a new object, opener, pair, closer, goer, tab. */
public final class BookTest {
    private static final String MARKS = "!\"$%&()*+,-./:;<=>?@[]^_|";
    private static final int UNKNOWN = IndentReader.UNKNOWN, OUTSIDE = IndentReader.OUTSIDE;
    private static final int STATE = IndentReader.STATE, FULL = IndentReader.FULL, NONE = IndentReader.NONE;
    private static final Check check = new Check();

    public static void main(String[] args) {
        aNewObject();
        openers();
        pairs();
        closers();
        goers();
        tabs();
        actsOfTheBookUnread();
        refusedActsChangeNothing();
        check.end();
    }

    private static void aNewObject() {
        IndentReader x = new IndentReader();
        check.due("new count(0)", x.count(0), STATE);
        check.due("new count(1)", x.count(1), STATE);
        check.due("new count(2)", x.count(2), STATE);
        check.due("new count(3)", x.count(3), 0);
        check.due("new count(4)", x.count(4), 0);
        check.due("new fault(0)", x.fault(0), 0);
        check.due("new fault(1)", x.fault(1), NONE);
        check.due("new byteAt(0)", x.byteAt(0), -12);
        check.due("new written(0)", x.written(0), NONE);
        check.due("new mended(0)", x.mended(0), NONE);
        check.due("new markAt(0)", x.markAt(0), -12);
        check.due("new mend()", x.mend(), STATE);
        check.due("new same()", x.same(), STATE);
        check.due("new shift(0, 1)", x.shift(0, 1), UNKNOWN);
        check.due("new tab(0)", x.tab(0), 0);
        check.due("new read()", x.read(), 0);
        check.due("new blocks", x.count(1), 1);
        check.due("new items", x.count(2), 0);
        Check.feed(x, "do\n  x");
        check.due("the new book is empty", x.read(), -105);
    }

    private static void openers() {
        IndentReader x = new IndentReader();
        check.due("word of 8", x.opener(Check.word("abcdefgh"), 1), 1);
        check.due("mark", x.opener(Check.word(":"), 2), 2);
        check.due("bytes behind a 0", x.opener(Check.word("ab\0cd"), 3), 3);
        check.due("it is ab that was told", x.opener(Check.word("ab"), 5), STATE);
        check.due("and no other", x.opener(Check.word("cd"), 5), 4);
        check.due("none", x.opener(0, 1), OUTSIDE);
        check.due("0 ahead", x.opener(Check.word("\0ab"), 1), OUTSIDE);
        check.due("great letter", x.opener(Check.word("Ab"), 1), OUTSIDE);
        check.due("digits", x.opener(Check.word("12"), 1), OUTSIDE);
        check.due("two marks", x.opener(Check.word("::"), 1), OUTSIDE);
        check.due("letter and mark", x.opener(Check.word("a:"), 1), OUTSIDE);
        check.due("-1", x.opener(-1L, 1), OUTSIDE);
        for (int kind : new int[] {-1, 0, 4, 6, Integer.MAX_VALUE, Integer.MIN_VALUE}) {
            check.due("kind " + kind, x.opener(Check.word("zz"), kind), OUTSIDE);
        }
        check.due("kind ahead of told", x.opener(Check.word("ab"), 4), OUTSIDE);
        check.due("fifth", x.opener(Check.word("e"), 1), 5);
        check.due("sixth", x.opener(Check.word("f"), 1), 6);
        check.due("seventh", x.opener(Check.word("g"), 1), 7);
        check.due("eighth", x.opener(Check.word("h"), 1), 8);
        check.due("ninth", x.opener(Check.word("i"), 1), FULL);
        check.due("told ahead of full", x.opener(Check.word("h"), 1), STATE);
        check.due("outside ahead of full", x.opener(Check.word("h1"), 1), OUTSIDE);
        for (int b = -300; b < 600; b++) {
            boolean mark = b > 0 && b < 256 && MARKS.indexOf(b) >= 0;
            boolean word = b >= 'a' && b <= 'z';
            int due = mark || word ? 1 : OUTSIDE;
            if (b >= 0 && b < 256) {
                check.due("byte " + b, new IndentReader().opener(b, 1), due);
            }
            check.due("goer " + b, new IndentReader().goer(b), mark ? 1 : OUTSIDE);
            check.due("first " + b, new IndentReader().pair(b, b == ')' ? '(' : ')'), mark ? 1 : OUTSIDE);
            check.due("second " + b, new IndentReader().pair(b == '(' ? ')' : '(', b), mark ? 1 : OUTSIDE);
        }
    }

    private static void pairs() {
        IndentReader x = new IndentReader();
        check.due("both are one", x.pair('(', '('), STATE);
        check.due("first", x.pair('(', ')'), 1);
        check.due("first told", x.pair('(', ']'), STATE);
        check.due("second told", x.pair('[', ')'), STATE);
        check.due("turned round", x.pair(')', '('), STATE);
        check.due("a brace", x.pair('{', '}'), OUTSIDE);
        check.due("a letter", x.pair('(', 'a'), OUTSIDE);
        check.due("opener of a second mark", x.opener(')', 1), STATE);
        check.due("goer of a first mark", x.goer('('), STATE);
        check.due("second", x.pair('[', ']'), 2);
        check.due("third", x.pair('<', '>'), 3);
        check.due("fourth", x.pair('!', '?'), 4);
        check.due("fifth", x.pair('.', ','), FULL);
        check.due("told ahead of full", x.pair('.', '?'), STATE);
    }

    private static void closers() {
        IndentReader x = new IndentReader();
        check.due("a mark", x.closer(':'), OUTSIDE);
        check.due("none", x.closer(0), OUTSIDE);
        check.due("digits", x.closer(Check.word("1")), OUTSIDE);
        check.due("first", x.closer(Check.word("in")), 1);
        check.due("told", x.closer(Check.word("in")), STATE);
        check.due("told, more behind a 0", x.closer(Check.word("in\0x")), STATE);
        check.due("opener of a closer", x.opener(Check.word("in"), 1), STATE);
        x.opener(Check.word("do"), 1);
        check.due("closer of an opener", x.closer(Check.word("do")), STATE);
        check.due("second", x.closer(Check.word("b")), 2);
        check.due("third", x.closer(Check.word("c")), 3);
        check.due("fourth", x.closer(Check.word("abcdefgh")), 4);
        check.due("fifth", x.closer(Check.word("e")), FULL);
        check.due("told ahead of full", x.closer(Check.word("c")), STATE);
    }

    private static void goers() {
        IndentReader x = new IndentReader();
        x.opener(':', 1);
        check.due("goer of an opener", x.goer(':'), STATE);
        check.due("a letter", x.goer('a'), OUTSIDE);
        check.due("first", x.goer('-'), 1);
        check.due("told", x.goer('-'), STATE);
        check.due("opener of a goer", x.opener('-', 1), STATE);
        check.due("pair of a goer", x.pair('-', '+'), STATE);
        check.due("second", x.goer('+'), 2);
        check.due("third", x.goer('*'), 3);
        check.due("fourth", x.goer('/'), 4);
        check.due("fifth", x.goer('|'), FULL);
        check.due("told ahead of full", x.goer('/'), STATE);
    }

    private static void tabs() {
        IndentReader x = new IndentReader();
        check.due("tab(8)", x.tab(8), 0);
        check.due("tab(9)", x.tab(9), OUTSIDE);
        check.due("tab(-1)", x.tab(-1), OUTSIDE);
        check.due("tab(1)", x.tab(1), 8);
        check.due("tab(0)", x.tab(0), 1);
        check.due("tab(4)", x.tab(4), 0);
        Check.feed(x, "a\tb\t\tcde\tf");
        check.due("tokens", x.read(), 4);
        check.due("b", x.token(1, 4), 4);
        check.due("cde", x.token(2, 4), 12);
        check.due("f", x.token(3, 4), 16);
        x.tab(3);
        x.read();
        check.due("b by 3", x.token(1, 4), 3);
        check.due("cde by 3", x.token(2, 4), 9);
        check.due("f by 3, from a multiple", x.token(3, 4), 15);
    }

    private static void actsOfTheBookUnread() {
        for (int act = 0; act < 6; act++) {
            IndentReader x = Check.afterRead("a b");
            check.due("read ahead of act " + act, x.count(0), 2);
            switch (act) {
                case 0: x.opener(Check.word("z"), 1); break;
                case 1: x.pair('<', '>'); break;
                case 2: x.closer(Check.word("z")); break;
                case 3: x.goer('+'); break;
                case 4: x.tab(4); break;
                default: x.tab(0); break;
            }
            check.due("read no more by act " + act, x.count(0), STATE);
        }
    }

    private static void refusedActsChangeNothing() {
        IndentReader x = Check.afterRead("a b");
        x.opener(Check.word("z1"), 1);
        x.opener(Check.word("do"), 1);
        x.pair('(', ')');
        x.pair('a', 'b');
        x.closer(Check.word("in"));
        x.goer('-');
        x.tab(9);
        check.due("still read", x.count(0), 2);
        check.due("no pair of a half-refused act", x.pair('<', '-'), STATE);
        check.due("its first mark is still free", x.pair('<', '>'), 3);
    }
}
