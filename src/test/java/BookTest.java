import java.util.function.Supplier;
import java.util.function.ToIntFunction;

/** Promises 1 to 6: a new object, opener, pair, closer, goer, tab. */
public final class BookTest {
    private static final String MARKS = "!\"$%&()*+,-./:;<=>?@[]^_|";
    private static final int UNKNOWN = -1, OUTSIDE = -2, STATE = -3, FULL = -4, NONE = -9, INDEX = -12;
    private static final Check check = new Check();

    public static void main(String[] args) {
        check.runAll(BookTest.class);
    }

    private static boolean isMark(int b) {
        return b > 0 && b < 256 && MARKS.indexOf(b) >= 0;
    }

    private static String treeBy(Run x, String text) {
        x.cut(0);
        x.feedAll(text);
        return x.tree();
    }

    // ---- 1

    @Says(promise = 1, value = "An empty BOOK,")
    private static void aNewBookIsEmpty() {
        check.due("the first opener", new Run().opener(Run.word("do"), 1), 1);
        check.due("the first pair", new Run().pair('(', ')'), 1);
        check.due("the first closer", new Run().closer(Run.word("in")), 1);
        check.due("the first goer", new Run().goer('-'), 1);
        check.due("tab", new Run().tab(4), 0);
        check.due("no opener", treeBy(new Run(), "do of let a in b"), "do of let a in b");
        check.due("no pair", treeBy(new Run(), "( ) ] [ ("), "( ) ] [ (");
        check.due("no goer", treeBy(new Run(), "a -\nb"), "a - ; b");
        for (int i = 0; i < 25; i++) {
            check.due("no mark is told: " + MARKS.charAt(i), new Run().goer(MARKS.charAt(i)), 1);
        }
    }

    @Says(promise = 1, value = "an empty TEXT")
    private static void aNewTextIsEmpty() {
        Run x = new Run();
        check.due("bytes", x.count(4), 0);
        check.due("lines", x.count(3), 0);
        check.due("byte 0", x.byteAt(0), INDEX);
        check.due("a line to shift", x.shift(0, 1), UNKNOWN);
        check.due("bytes to cut", x.cut(0), 0);
        check.due("more to cut", x.cut(1), OUTSIDE);
        check.due("bytes to keep", x.keep(), 0);
        check.due("tokens", x.read(), 0);
        check.due("blocks", x.count(1), 1);
        check.due("items", x.count(2), 0);
    }

    @Says(promise = 1, value = "that was not read.")
    private static void aNewTextWasNotRead() {
        Run x = new Run();
        for (int what = 0; what < 3; what++) {
            check.due("count(" + what + ")", x.count(what), STATE);
        }
        check.due("token", x.token(0, 0), STATE);
        check.due("block", x.block(0, 0), STATE);
        check.due("item", x.item(0, 0), STATE);
        check.due("part", x.part(0, 0), STATE);
        check.due("itemAs", x.itemAs(0, 0, 0), STATE);
        check.due("reach", x.reach(true, 0, 0), STATE);
        check.due("around", x.around(0, 0), STATE);
        check.due("plain", x.plain(), STATE);
        check.due("write", x.write(1), STATE);
        check.due("same", x.same(), STATE);
        check.due("parts", x.parts(), STATE);
        check.due("mend", x.mend(), STATE);
        check.due("deepen", x.deepen(), STATE);
        check.due("fault(0)", x.fault(0), 0);
        for (int what = 1; what < 4; what++) {
            check.due("fault(" + what + ")", x.fault(what), NONE);
        }
    }

    @Says(promise = 1, value = {"An empty BOOK,", "an empty TEXT", "that was not read."})
    private static void aNewObjectHasNothingOfAnother() {
        Run x = Run.afterRead("a do\n b");
        x.tab(3);
        x.keep();
        x.marks(3);
        Run y = new Run();
        check.due("bytes", y.count(4), 0);
        check.due("opener", y.opener(Run.word("do"), 1), 1);
        check.due("tab", y.tab(0), 0);
        check.due("row", y.markAt(0), INDEX);
        check.due("page", y.written(0), NONE);
        check.due("the first one has its own", x.read(), 3);
    }

    // ---- 2

    @Says(promise = 2, value = "A WORD or MARK is an OPENER: how many there are.")
    private static void openersAreCounted() {
        Run x = new Run();
        String[] names = {"a", "abcdefgh", ":", "|", "zz", "o", "of", "!"};
        for (int i = 0; i < names.length; i++) {
            check.due("opener " + names[i], x.opener(Run.word(names[i]), 2), i + 1);
        }
        check.due("each opens", treeBy(x, "a abcdefgh : | zz o of ! x"),
                "a { abcdefgh { : { | { zz { o { of { ! { x } } } } } } } }");
    }

    @Says(promise = 2, value = "The WORD or MARK is told by bytes, from the lowest on, up to a byte 0, or all.")
    private static void anOpenerIsToldUpToAByteNought() {
        Run x = new Run();
        check.due("all eight", x.opener(0x6867666564636261L, 2), 1);
        check.due("up to a byte 0", x.opener(0x6463006261L, 2), 2);
        check.due("a mark up to a byte 0", x.opener(0x6161616161610000L | '+', 2), 3);
        check.due("a byte 0 as the eighth", x.opener(0x0067666564636261L, 2), 4);
        check.due("it is ab that was told", x.opener(Run.word("ab"), 2), STATE);
        check.due("it is + that was told", x.opener('+', 2), STATE);
        check.due("it is not what stands behind", x.opener(Run.word("cd"), 2), 5);
        check.due("they open", treeBy(x, "abcdefgh ab + abcdefg x"), "abcdefgh { ab { + { abcdefg { x } } } }");
        check.due("from the lowest on", treeBy(x, "hgfedcba ba x"), "hgfedcba ba x");
        check.due("none at all", x.opener(0, 2), OUTSIDE);
        check.due("a byte 0 first", x.opener(0x6100, 2), OUTSIDE);
        check.due("a byte 0 first, seven behind", x.opener(0x6161616161616100L, 2), OUTSIDE);
    }

    @Says(promise = 2, value = "OUTSIDE: it is neither, or KIND;")
    private static void anOpenerOutsideIsNeitherWordNorMark() {
        for (int b = 1; b < 256; b++) {
            int due = isMark(b) || b >= 'a' && b <= 'z' ? 1 : OUTSIDE;
            check.due("byte " + b, new Run().opener(b, 1), due);
            check.due("a and byte " + b, new Run().opener('a' | b << 8, 1), b >= 'a' && b <= 'z' ? 1 : OUTSIDE);
            check.due("a mark and byte " + b, new Run().opener('+' | b << 8, 1), OUTSIDE);
            check.due("seven letters and byte " + b, new Run().opener(0x61616161616161L | (long) b << 56, 1),
                    b >= 'a' && b <= 'z' ? 1 : OUTSIDE);
        }
        Supplier<Run> some = () -> Run.afterRead("a b");
        check.refused("digits", some, x -> x.opener(Run.word("12"), 1), OUTSIDE);
        check.refused("two marks", some, x -> x.opener(Run.word("++"), 1), OUTSIDE);
        check.refused("-1", some, x -> x.opener(-1L, 1), OUTSIDE);
        check.refused("the least number", some, x -> x.opener(Long.MIN_VALUE, 1), OUTSIDE);
        check.refused("a mark above all bytes", some, x -> x.opener(0x100L + '+', 1), OUTSIDE);
    }

    @Says(promise = 2, value = "OUTSIDE: it is neither, or KIND;")
    private static void anOpenerOutsideHasAnotherKind() {
        for (int kind : new int[] {1, 2, 3, 5}) {
            check.due("kind " + kind, new Run().opener(Run.word("zz"), kind), 1);
        }
        Supplier<Run> some = () -> Run.afterRead("a b");
        for (int kind : new int[] {0, 4, 6, -1, Integer.MIN_VALUE, Integer.MAX_VALUE}) {
            check.refused("kind " + kind, some, x -> x.opener(Run.word("zz"), kind), OUTSIDE);
        }
        check.due("ahead of STATE", some.get().opener(Run.word("do"), 4), OUTSIDE);
    }

    @Says(promise = 2, value = "STATE: it is told already;")
    private static void anOpenerThatIsToldAlready() {
        Supplier<Run> some = () -> Run.afterRead("a b");
        for (String name : new String[] {"do", ":", "of", "in", "(", ")", "]", "-"}) {
            check.refused("opener " + name, some, x -> x.opener(Run.word(name), 2), STATE);
        }
        check.due("another one", some.get().opener(Run.word("d"), 2), 7);
    }

    private static Run openers(int most) {
        Run x = new Run();
        for (int i = 0; i < most; i++) {
            x.opener('a' + i, 2);
        }
        x.feedAll("k a b");
        x.read();
        return x;
    }

    @Says(promise = 2, value = "FULL.")
    private static void aNinthOpenerIsTooMany() {
        check.due("an eighth", openers(7).opener('z', 1), 8);
        check.refused("a ninth", () -> openers(8), x -> x.opener('z', 1), FULL);
        check.refused("a ninth by a mark", () -> openers(8), x -> x.opener('+', 5), FULL);
        Run x = openers(8);
        x.opener('z', 2);
        check.due("it opens none", treeBy(x, "z y h x"), "z y h { x }");
        check.due("it is not told", x.closer('z'), 1);
        check.due("STATE ahead of FULL", x.opener('a', 2), STATE);
        check.due("OUTSIDE ahead of FULL", x.opener('A', 2), OUTSIDE);
    }

    // ---- 3

    @Says(promise = 3, value = "Two MARKS are a PAIR: how many.")
    private static void pairsAreCounted() {
        Run x = new Run();
        for (int i = 0; i < 4; i++) {
            check.due("pair " + i, x.pair("([<|".charAt(i), ")]>!".charAt(i)), i + 1);
        }
        check.due("each is one", treeBy(x, "(a\nb) [c\nd] <e\nf> |g\nh!"), "( a b ) [ c d ] < e f > | g h !");
        check.due("each of its own", treeBy(x, "(a>"), "5@2");
    }

    @Says(promise = 3, value = "OUTSIDE;")
    private static void aPairOutside() {
        for (int b = -300; b < 600; b++) {
            int due = isMark(b) ? 1 : OUTSIDE;
            check.due("first " + b, new Run().pair(b, b == ')' ? '(' : ')'), due);
            check.due("second " + b, new Run().pair(b == '(' ? ')' : '(', b), due);
        }
        Supplier<Run> some = () -> Run.afterRead("a b");
        check.refused("a brace", some, x -> x.pair('{', '}'), OUTSIDE);
        check.refused("second a letter", some, x -> x.pair('^', 'a'), OUTSIDE);
        check.refused("first a letter", some, x -> x.pair('a', '_'), OUTSIDE);
        check.refused("both one letter", some, x -> x.pair('a', 'a'), OUTSIDE);
        check.refused("first told, second a letter", some, x -> x.pair('(', 'a'), OUTSIDE);
        check.refused("above all bytes", some, x -> x.pair('^' + 65536, '_'), OUTSIDE);
        check.refused("the least number", some, x -> x.pair('^', Integer.MIN_VALUE), OUTSIDE);
    }

    @Says(promise = 3, value = "STATE: one is told already,")
    private static void aPairOfOneThatIsToldAlready() {
        Supplier<Run> some = () -> Run.afterRead("a b");
        for (char told : new char[] {'(', ')', '[', ']', ':', '=', '-'}) {
            check.refused("first " + told, some, x -> x.pair(told, '_'), STATE);
            check.refused("second " + told, some, x -> x.pair('^', told), STATE);
        }
        check.refused("turned round", some, x -> x.pair(')', '('), STATE);
        Run x = some.get();
        x.pair('^', '-');
        check.due("the one that was not told is free", x.goer('^'), 2);
    }

    @Says(promise = 3, value = "or both are one;")
    private static void aPairOfOneMarkTwice() {
        check.refused("both one", () -> Run.afterRead("a b"), x -> x.pair('^', '^'), STATE);
        check.due("ahead of all", new Run().pair('^', '^'), STATE);
    }

    private static Run pairs(int most) {
        Run x = new Run();
        for (int i = 0; i < most; i++) {
            x.pair("([<|".charAt(i), ")]>!".charAt(i));
        }
        x.feedAll("k a b");
        x.read();
        return x;
    }

    @Says(promise = 3, value = "FULL.")
    private static void aFifthPairIsTooMany() {
        check.due("a fourth", pairs(3).pair('+', '*'), 4);
        check.refused("a fifth", () -> pairs(4), x -> x.pair('+', '*'), FULL);
        Run x = pairs(4);
        x.pair('+', '*');
        check.due("they are marks as others", treeBy(x, "* +"), "* +");
        check.due("STATE ahead of FULL", x.pair('+', ')'), STATE);
        check.due("both one ahead of FULL", x.pair('+', '+'), STATE);
        check.due("OUTSIDE ahead of FULL", x.pair('+', 'a'), OUTSIDE);
    }

    // ---- 4

    @Says(promise = 4, value = "A WORD is a CLOSER: how many.")
    private static void closersAreCounted() {
        Run x = new Run();
        x.opener(Run.word("let"), 5);
        String[] names = {"a", "abcdefgh", "in\0x", "zz"};
        for (int i = 0; i < 4; i++) {
            check.due("closer " + names[i], x.closer(Run.word(names[i])), i + 1);
        }
        check.due("each ends a let", treeBy(x, "let let let let x a y abcdefgh z in v zz w"),
                "let { let { let { let { x } a y } abcdefgh z } in v } zz w");
    }

    @Says(promise = 4, value = "OUTSIDE;")
    private static void aCloserOutside() {
        for (int b = 1; b < 256; b++) {
            int due = b >= 'a' && b <= 'z' ? 1 : OUTSIDE;
            check.due("byte " + b, new Run().closer(b), due);
            check.due("seven letters and byte " + b, new Run().closer(0x61616161616161L | (long) b << 56), due);
        }
        Supplier<Run> some = () -> Run.afterRead("a b");
        check.refused("none", some, x -> x.closer(0), OUTSIDE);
        check.refused("a byte 0 first", some, x -> x.closer(0x6100), OUTSIDE);
        check.refused("a mark", some, x -> x.closer('+'), OUTSIDE);
        check.refused("a mark that is told", some, x -> x.closer('-'), OUTSIDE);
        check.refused("digits", some, x -> x.closer(Run.word("12")), OUTSIDE);
        check.refused("-1", some, x -> x.closer(-1L), OUTSIDE);
    }

    @Says(promise = 4, value = "STATE;")
    private static void aCloserThatIsToldAlready() {
        Supplier<Run> some = () -> Run.afterRead("a b");
        check.refused("a closer", some, x -> x.closer(Run.word("in")), STATE);
        check.refused("a closer, more behind a byte 0", some, x -> x.closer(Run.word("in\0x")), STATE);
        check.refused("an opener", some, x -> x.closer(Run.word("do")), STATE);
        check.refused("an opener of a let", some, x -> x.closer(Run.word("let")), STATE);
        check.due("another one", some.get().closer(Run.word("inn")), 2);
    }

    private static Run closers(int most) {
        Run x = new Run();
        x.opener(Run.word("let"), 5);
        for (int i = 0; i < most; i++) {
            x.closer('a' + i);
        }
        x.feedAll("k a b");
        x.read();
        return x;
    }

    @Says(promise = 4, value = "FULL.")
    private static void aFifthCloserIsTooMany() {
        check.due("a fourth", closers(3).closer('z'), 4);
        check.refused("a fifth", () -> closers(4), x -> x.closer('z'), FULL);
        Run x = closers(4);
        x.closer('z');
        check.due("it ends none", treeBy(x, "let x z d y"), "let { x z } d y");
        check.due("STATE ahead of FULL", x.closer('a'), STATE);
        check.due("OUTSIDE ahead of FULL", x.closer('+'), OUTSIDE);
    }

    // ---- 5

    @Says(promise = 5, value = "A MARK is a GOER: how many.")
    private static void goersAreCounted() {
        Run x = new Run();
        for (int i = 0; i < 4; i++) {
            check.due("goer " + i, x.goer("-!|,".charAt(i)), i + 1);
        }
        check.due("each goes on", treeBy(x, "a -\n b !\nc |\n d ,\ne"), "a - b ! c | d , e");
    }

    @Says(promise = 5, value = "OUTSIDE;")
    private static void aGoerOutside() {
        for (int b = -300; b < 600; b++) {
            check.due("goer " + b, new Run().goer(b), isMark(b) ? 1 : OUTSIDE);
        }
        Supplier<Run> some = () -> Run.afterRead("a b");
        check.refused("a letter", some, x -> x.goer('a'), OUTSIDE);
        check.refused("above all bytes", some, x -> x.goer('+' + 65536), OUTSIDE);
        check.refused("the least number", some, x -> x.goer(Integer.MIN_VALUE), OUTSIDE);
        check.refused("the greatest", some, x -> x.goer(Integer.MAX_VALUE), OUTSIDE);
    }

    @Says(promise = 5, value = "STATE;")
    private static void aGoerThatIsToldAlready() {
        Supplier<Run> some = () -> Run.afterRead("a b");
        for (char told : new char[] {'-', '(', ')', '[', ']', ':', '='}) {
            check.refused("goer " + told, some, x -> x.goer(told), STATE);
        }
        check.due("another one", some.get().goer('+'), 2);
    }

    private static Run goers(int most) {
        Run x = new Run();
        for (int i = 0; i < most; i++) {
            x.goer("-!?,".charAt(i));
        }
        x.feedAll("k a b");
        x.read();
        return x;
    }

    @Says(promise = 5, value = "FULL.")
    private static void aFifthGoerIsTooMany() {
        check.due("a fourth", goers(3).goer('+'), 4);
        check.refused("a fifth", () -> goers(4), x -> x.goer('+'), FULL);
        Run x = goers(4);
        x.goer('+');
        check.due("it goes on with none", treeBy(x, "a +\nb"), "a + ; b");
        check.due("STATE ahead of FULL", x.goer('-'), STATE);
        check.due("OUTSIDE ahead of FULL", x.goer('a'), OUTSIDE);
    }

    // ---- 6

    @Says(promise = 6, value = "TAB: what it was.")
    private static void tabAnswersWhatItWas() {
        Run x = new Run();
        check.due("at first", x.tab(8), 0);
        check.due("8", x.tab(1), 8);
        check.due("1", x.tab(1), 1);
        check.due("1 again", x.tab(0), 1);
        check.due("0", x.tab(4), 0);
        x.feedAll("a\tb");
        x.read();
        check.due("by 4", x.token(1, 4), 4);
        x.tab(3);
        x.read();
        check.due("by 3", x.token(1, 4), 3);
    }

    @Says(promise = 6, value = "OUTSIDE: 0 .. 8.")
    private static void aTabOutside() {
        for (int n = -2; n <= 10; n++) {
            check.due("tab(" + n + ")", new Run().tab(n), n >= 0 && n <= 8 ? 0 : OUTSIDE);
        }
        Supplier<Run> some = () -> Run.afterRead("a\tb", 4);
        for (int n : new int[] {-1, 9, Integer.MIN_VALUE, Integer.MAX_VALUE}) {
            check.refused("tab(" + n + ")", some, x -> x.tab(n), OUTSIDE);
            Run x = some.get();
            x.tab(n);
            check.due("it is what it was", x.tab(0), 4);
        }
    }

    private static void unread(String what, ToIntFunction<Run> act, int want) {
        for (String text : new String[] {"a b", ""}) {
            Run x = Run.afterRead(text);
            check.due("read ahead of " + what, x.count(1), 1);
            check.due(what, act.applyAsInt(x), want);
            check.due("read no more by " + what, x.count(1), STATE);
            check.due("no token by " + what, x.token(0, 0), STATE);
            check.due("no page by " + what, x.plain(), STATE);
            check.due("read again after " + what, x.read() >= 0 ? x.count(1) : 0, 1);
        }
        Run faulty = Run.afterRead("a\n b");
        act.applyAsInt(faulty);
        check.due("a fault is to be mended no more by " + what, faulty.mend(), STATE);
    }

    @Says(promise = 6, value = "(What was read is read no more, as with all acts of the BOOK that are not refused.)")
    private static void actsOfTheBookUnread() {
        unread("opener", x -> x.opener(Run.word("zz"), 1), 7);
        unread("pair", x -> x.pair('<', '>'), 3);
        unread("closer", x -> x.closer(Run.word("zz")), 2);
        unread("goer", x -> x.goer('+'), 2);
        unread("tab(4)", x -> x.tab(4), 0);
        unread("tab as it was", x -> x.tab(0), 0);
    }
}
