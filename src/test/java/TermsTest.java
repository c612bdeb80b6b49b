import java.util.function.Supplier;

/** 'Terms': refusals, failures, NONE, and 1 THE BOOK. */
public final class TermsTest {
    private static final int UNKNOWN = -1, OUTSIDE = -2, STATE = -3, FULL = -4, NONE = -9;
    private static final int CAST = -11, INDEX = -12, SIZE = -13;
    private static final String MARKS = "!\"$%&()*+,-./:;<=>?@[]^_|";
    private static final Check check = new Check();

    public static void main(String[] args) {
        check.runAll(TermsTest.class);
    }

    // ---- refusals and failures

    @Says(promise = 0, value = "UNKNOWN (there is no such LINE, TOKEN, BLOCK, ITEM),")
    private static void unknownIsOfLinesTokensBlocksItems() {
        check.due("UNKNOWN", IndentReader.UNKNOWN, -1);
        Run x = Run.afterRead("a do\n b");
        check.due("the last token", x.token(2, 0), 0);
        check.due("the last block", x.block(1, 0), 1);
        check.due("the last item", x.item(1, 0), 1);
        for (int k : new int[] {-1, 3, 4, Integer.MIN_VALUE, Integer.MAX_VALUE}) {
            check.due("TOKEN " + k, x.token(k, 0), -1);
            check.due("LINE " + k, x.shift(k, 0), -1);
        }
        for (int k : new int[] {-1, 2, 3, Integer.MIN_VALUE, Integer.MAX_VALUE}) {
            check.due("BLOCK " + k, x.block(k, 0), -1);
            check.due("ITEM " + k, x.item(k, 0), -1);
            check.due("LINE " + k, x.shift(k, 0), -1);
        }
        check.due("the last line", x.shift(1, 0), 1);
    }

    @Says(promise = 0, value = "OUTSIDE (another number is not as told), STATE (as told), FULL.")
    private static void otherRefusalsHaveTheirNumbers() {
        check.due("OUTSIDE", IndentReader.OUTSIDE, -2);
        check.due("STATE", IndentReader.STATE, -3);
        check.due("FULL", IndentReader.FULL, -4);
        Run x = new Run();
        check.due("another number", x.tab(9), -2);
        check.due("as told", x.count(0), -3);
        x.goer('+');
        x.goer('*');
        x.goer('.');
        x.goer(',');
        check.due("full", x.goer('|'), -4);
    }

    @Says(promise = 0, value = "REFUSALS, of several the first that a call names:")
    private static void ofSeveralTheFirstThatACallNames() {
        Run full = fullBook();
        check.due("opener: OUTSIDE by its word, FULL", full.opener(Run.word("A"), 1), OUTSIDE);
        check.due("opener: OUTSIDE by its kind, STATE, FULL", full.opener(Run.word("a"), 4), OUTSIDE);
        check.due("opener: STATE, FULL", full.opener(Run.word("a"), 1), STATE);
        check.due("pair: OUTSIDE, STATE, FULL", full.pair('(', 'a'), OUTSIDE);
        check.due("pair: STATE, FULL", full.pair('(', '^'), STATE);
        check.due("pair: both one, FULL", full.pair('^', '^'), STATE);
        check.due("closer: OUTSIDE, FULL", full.closer('^'), OUTSIDE);
        check.due("closer: STATE, FULL", full.closer(Run.word("a")), STATE);
        check.due("goer: OUTSIDE, FULL", full.goer('a'), OUTSIDE);
        check.due("goer: STATE, FULL", full.goer('('), STATE);
        Run wide = Run.withText("a".repeat(599));
        check.due("shift: UNKNOWN, OUTSIDE", wide.shift(1, 41), UNKNOWN);
        check.due("shift: UNKNOWN, STATE", wide.shift(1, -1), UNKNOWN);
        check.due("shift: UNKNOWN, FULL", wide.shift(1, 2), UNKNOWN);
        check.due("shift: OUTSIDE, STATE", wide.shift(0, -41), OUTSIDE);
        check.due("shift: OUTSIDE, FULL", wide.shift(0, 41), OUTSIDE);
    }

    @Says(promise = 0, value = "REFUSALS, of several the first that a call names:")
    private static void ofSeveralTheFirstAsTheTreeIsAsked() {
        Run unread = Run.withText("a of");
        check.due("count: OUTSIDE alone", unread.count(5), OUTSIDE);
        check.due("token: STATE, UNKNOWN, OUTSIDE", unread.token(-1, 8), STATE);
        check.due("block: STATE, UNKNOWN, OUTSIDE", unread.block(-1, 8), STATE);
        check.due("item: STATE, UNKNOWN, OUTSIDE", unread.item(-1, 5), STATE);
        check.due("part: STATE, UNKNOWN, INDEX", unread.part(-1, -1), STATE);
        check.due("itemAs: STATE, UNKNOWN, OUTSIDE, INDEX", unread.itemAs(-1, 6, -1), STATE);
        check.due("reach: STATE, UNKNOWN, OUTSIDE", unread.reach(true, -1, 4), STATE);
        check.due("around: STATE, UNKNOWN", unread.around(-1, -1), STATE);
        check.due("write: OUTSIDE, STATE", unread.write(0), OUTSIDE);
        check.due("deepen: STATE, INDEX", unread.deepen(), STATE);
        check.due("marks: SIZE", unread.marks(-1), SIZE);
        Run x = Run.afterRead("a of");
        check.due("token: UNKNOWN, OUTSIDE", x.token(2, 8), UNKNOWN);
        check.due("block: UNKNOWN, OUTSIDE", x.block(2, 8), UNKNOWN);
        check.due("item: UNKNOWN, OUTSIDE", x.item(1, 5), UNKNOWN);
        check.due("part: UNKNOWN, INDEX", x.part(1, 9), UNKNOWN);
        check.due("itemAs: UNKNOWN, OUTSIDE, INDEX", x.itemAs(2, 6, 9), UNKNOWN);
        check.due("itemAs: OUTSIDE, INDEX", x.itemAs(1, 6, 9), OUTSIDE);
        check.due("itemAs: CAST, INDEX", x.itemAs(1, 5, 9), CAST);
        check.due("reach: UNKNOWN, OUTSIDE", x.reach(true, 2, 4), UNKNOWN);
        check.due("reach of no token: OUTSIDE", x.reach(true, 1, 4), OUTSIDE);
    }

    @Says(promise = 0, value = "REFUSALS, of several the first that a call names:")
    private static void ofSeveralTheFirstAsTextsAreWrittenAndMended() {
        String behindEmpty = "=".repeat(100) + "a -\n= b";
        check.due("write: OUTSIDE, STATE, FULL", Run.afterRead(behindEmpty).write(9), OUTSIDE);
        check.due("write: STATE, FULL", Run.afterRead(behindEmpty).write(8), STATE);
        check.due("write: FULL", Run.afterRead("=".repeat(100) + "a -\nb").write(8), FULL);
        Run x = afterMends(30);
        check.due("mend: STATE, not read, FULL", x.mend(), STATE);
        x.read();
        check.due("mend: STATE, no fault, FULL", x.mend(), STATE);
        x.readAnew("a\n b");
        check.due("mend: FULL", x.mend(), FULL);
    }

    @Says(promise = 0, value = {"FAILURES (-10 less the number):", "1 CAST (it is a BLOCK of another kind),"})
    private static void castIsMinusEleven() {
        Run x = Run.afterRead("a of b");
        check.due("as it is", x.itemAs(1, 3, 0), 1);
        check.due("of another kind", x.itemAs(1, 5, 0), -11);
    }

    @Says(promise = 0, value = {"FAILURES (-10 less the number):", "2 INDEX (there is no such place),"})
    private static void indexIsMinusTwelve() {
        Run x = Run.afterRead("a");
        for (int i : new int[] {-1, 1, Integer.MIN_VALUE, Integer.MAX_VALUE}) {
            check.due("byte " + i, x.byteAt(i), -12);
            check.due("part " + i, x.part(0, i), -12);
            check.due("item " + i, x.itemAs(0, 0, i), -12);
            check.due("mark " + i, x.markAt(i), -12);
        }
        check.due("row too short", x.deepen(), -12);
    }

    @Says(promise = 0, value = {"FAILURES (-10 less the number):", "3 SIZE (below 0)."})
    private static void sizeIsMinusThirteen() {
        Run x = new Run();
        check.due("-1", x.marks(-1), -13);
        check.due("0", x.marks(0), 0);
        check.due("least", x.marks(Integer.MIN_VALUE), -13);
    }

    @Says(promise = 0, value = "What is refused or fails changes nothing.")
    private static void refusedActsOfTheBookChangeNothing() {
        Supplier<Run> some = () -> workedOn("a do\n  b");
        check.refused("opener OUTSIDE", some, x -> x.opener(Run.word("z1"), 1), OUTSIDE);
        check.refused("opener of kind 4", some, x -> x.opener(Run.word("zz"), 4), OUTSIDE);
        check.refused("opener STATE", some, x -> x.opener(Run.word("do"), 5), STATE);
        check.refused("pair OUTSIDE by its second", some, x -> x.pair('^', 'a'), OUTSIDE);
        check.refused("pair OUTSIDE by its first", some, x -> x.pair('a', '_'), OUTSIDE);
        check.refused("pair STATE by its second", some, x -> x.pair('^', '-'), STATE);
        check.refused("pair STATE by its first", some, x -> x.pair('-', '_'), STATE);
        check.refused("pair of one", some, x -> x.pair('^', '^'), STATE);
        check.refused("closer OUTSIDE", some, x -> x.closer('^'), OUTSIDE);
        check.refused("closer STATE", some, x -> x.closer(Run.word("do")), STATE);
        check.refused("goer OUTSIDE", some, x -> x.goer('z'), OUTSIDE);
        check.refused("goer STATE", some, x -> x.goer('('), STATE);
        check.refused("tab OUTSIDE", some, x -> x.tab(9), OUTSIDE);
        Supplier<Run> full = TermsTest::fullBookRead;
        check.refused("opener FULL", full, x -> x.opener(Run.word("zz"), 1), FULL);
        check.refused("pair FULL", full, x -> x.pair('^', '_'), FULL);
        check.refused("closer FULL", full, x -> x.closer(Run.word("yy")), FULL);
        check.refused("goer FULL", full, x -> x.goer('|'), FULL);
    }

    @Says(promise = 0, value = "What is refused or fails changes nothing.")
    private static void refusedActsOfTheTextChangeNothing() {
        Supplier<Run> some = () -> workedOn("a do\n  b");
        check.refused("cut OUTSIDE below", some, x -> x.cut(-1), OUTSIDE);
        check.refused("cut OUTSIDE above", some, x -> x.cut(9), OUTSIDE);
        check.refused("shift UNKNOWN", some, x -> x.shift(2, 1), UNKNOWN);
        check.refused("shift OUTSIDE", some, x -> x.shift(1, 41), OUTSIDE);
        check.refused("shift STATE", some, x -> x.shift(1, -3), STATE);
        check.refused("byteAt INDEX", some, x -> x.byteAt(8), INDEX);
        Supplier<Run> full = () -> workedOn("a do\n  b" + " ".repeat(591));
        check.refused("feed FULL", full, x -> x.feed(Run.word("cd")), FULL);
        check.refused("shift FULL", full, x -> x.shift(1, 2), FULL);
    }

    @Says(promise = 0, value = "What is refused or fails changes nothing.")
    private static void refusedQuestionsChangeNothing() {
        Supplier<Run> some = () -> workedOn("a do\n  b");
        check.refused("fault OUTSIDE", some, x -> x.fault(4), OUTSIDE);
        check.refused("count OUTSIDE", some, x -> x.count(5), OUTSIDE);
        check.refused("token UNKNOWN", some, x -> x.token(3, 0), UNKNOWN);
        check.refused("token OUTSIDE", some, x -> x.token(0, 8), OUTSIDE);
        check.refused("block UNKNOWN", some, x -> x.block(2, 0), UNKNOWN);
        check.refused("block OUTSIDE", some, x -> x.block(0, 8), OUTSIDE);
        check.refused("item UNKNOWN", some, x -> x.item(2, 0), UNKNOWN);
        check.refused("item OUTSIDE", some, x -> x.item(0, 5), OUTSIDE);
        check.refused("part UNKNOWN", some, x -> x.part(2, 0), UNKNOWN);
        check.refused("part INDEX", some, x -> x.part(0, 3), INDEX);
        check.refused("itemAs UNKNOWN", some, x -> x.itemAs(2, 0, 0), UNKNOWN);
        check.refused("itemAs OUTSIDE", some, x -> x.itemAs(1, 6, 0), OUTSIDE);
        check.refused("itemAs CAST", some, x -> x.itemAs(1, 2, 0), CAST);
        check.refused("itemAs INDEX", some, x -> x.itemAs(1, 1, 1), INDEX);
        check.refused("reach UNKNOWN", some, x -> x.reach(true, 2, 0), UNKNOWN);
        check.refused("reach OUTSIDE", some, x -> x.reach(true, 1, 4), OUTSIDE);
        check.refused("around UNKNOWN", some, x -> x.around(1, 3), UNKNOWN);
        check.refused("markAt INDEX", some, x -> x.markAt(3), INDEX);
        check.refused("mended OUTSIDE", some, x -> x.mended(2), OUTSIDE);
    }

    @Says(promise = 0, value = "What is refused or fails changes nothing.")
    private static void whatIsRefusedWithoutAReadingChangesNothing() {
        for (String text : new String[] {"a\n b", "a )", "a {"}) {
            Supplier<Run> faulty = () -> workedOn(text);
            check.refused("count STATE", faulty, x -> x.count(0), STATE);
            check.refused("token STATE", faulty, x -> x.token(0, 0), STATE);
            check.refused("plain STATE", faulty, x -> x.plain(), STATE);
            check.refused("write STATE", faulty, x -> x.write(1), STATE);
            check.refused("same STATE", faulty, x -> x.same(), STATE);
            check.refused("parts STATE", faulty, x -> x.parts(), STATE);
            check.refused("deepen STATE", faulty, x -> x.deepen(), STATE);
        }
        Supplier<Run> unread = () -> {
            Run x = workedOn("a\n b");
            x.feed(0);
            return x;
        };
        check.refused("mend STATE", unread, x -> x.mend(), STATE);
        check.refused("plain STATE", unread, x -> x.plain(), STATE);
        check.refused("write STATE", unread, x -> x.write(1), STATE);
        check.refused("same STATE", unread, x -> x.same(), STATE);
        check.refused("parts STATE", unread, x -> x.parts(), STATE);
        check.refused("deepen STATE", unread, x -> x.deepen(), STATE);
    }

    @Says(promise = 0, value = "What is refused or fails changes nothing.")
    private static void refusedPagesMendsAndRowsChangeNothing() {
        Supplier<Run> some = () -> workedOn("a do\n  b");
        check.refused("write OUTSIDE", some, x -> x.write(9), OUTSIDE);
        check.refused("mend STATE", some, x -> x.mend(), STATE);
        check.refused("marks SIZE", some, x -> x.marks(-1), SIZE);
        check.refused("marks OUTSIDE", some, x -> x.marks(201), OUTSIDE);
        check.refused("write STATE", () -> workedOn("of a -\nof b"), x -> x.write(1), STATE);
        check.refused("write FULL", () -> workedOn("=".repeat(100)), x -> x.write(8), FULL);
        check.refused("mend FULL", () -> {
            Run x = afterMends(30);
            x.readAnew("a\n b");
            return x;
        }, x -> x.mend(), FULL);
        Supplier<Run> keptFault = () -> {
            Run x = workedOn("a )");
            x.keep();
            x.readAnew("a b");
            return x;
        };
        check.refused("same STATE", keptFault, x -> x.same(), STATE);
        check.refused("parts STATE", keptFault, x -> x.parts(), STATE);
    }

    @Says(promise = 0, value = "NONE is -9.")
    private static void noneIsMinusNine() {
        check.due("NONE", IndentReader.NONE, NONE);
        Run x = Run.afterRead("");
        check.due("fault", x.fault(1), -9);
        check.due("mended", x.mended(0), -9);
        check.due("written", x.written(0), -9);
        check.due("holder of FLAT", x.block(0, 2), -9);
        check.due("parts", x.parts(), -9);
    }

    /** All that a reader can hold: a page, a kept text, a mend, a row, a tab, and then a text that was read. */
    private static Run workedOn(String text) {
        Run x = Run.withText("k\n l");
        x.tab(4);
        x.read();
        x.mend();
        x.read();
        x.keep();
        x.marks(3);
        x.deepen();
        x.write(1);
        x.readAnew(text);
        return x;
    }

    private static Run afterMends(int mends) {
        Run x = new Run();
        for (int i = 0; i < mends; i++) {
            x.readAnew("a\n b");
            x.mend();
        }
        return x;
    }

    /** Eight openers, four of each other sort. */
    private static Run fullBook() {
        Run x = new Run();
        for (int i = 0; i < 8; i++) {
            x.opener('a' + i, 2);
        }
        for (int i = 0; i < 4; i++) {
            x.pair("([<!".charAt(i), ")]>?".charAt(i));
            x.closer('p' + i);
            x.goer("-+*/".charAt(i));
        }
        return x;
    }

    private static Run fullBookRead() {
        Run x = fullBook();
        x.feedAll("x a y");
        x.read();
        return x;
    }

    // ---- 1 THE BOOK

    private static void reads(String text, int want) {
        Run x = new Run();
        x.feedAll(text);
        check.due("read() of [" + text + "]", x.read(), want);
    }

    @Says(promise = 0, value = {"==== 1 THE BOOK.",
        "A WORD is a row of letters a .. z, 8 at most (as long as can be; a longer row is no TOKEN),"})
    private static void aWordHasEightLettersAtMost() {
        reads("a", 1);
        reads("z", 1);
        reads("abcdefg", 1);
        reads("abcdefgh", 1);
        reads("abcdefghi", -100);
        reads("abcdefghijklmnop", -100);
        reads("abcdefghijklmnopq", -100);
        reads("abcdefgh ijklmnop", 2);
        reads("7abcdefghi", -101);
        reads("a".repeat(600), -100);
        Run x = Run.afterRead("12abcdefgh7");
        check.due("three tokens", x.count(0), 3);
        check.due("as long as can be", x.token(1, 2), 8);
    }

    @Says(promise = 0, value = "A WORD is a row of letters a .. z,")
    private static void lettersAreAToZ() {
        for (int b = 0; b < 256; b++) {
            if (b >= 'a' && b <= 'z') {
                Run x = new Run();
                x.feed(b);
                check.due("byte " + b, x.read(), 1);
                check.due("kind of byte " + b, x.token(0, 0), 0);
            }
        }
        reads("`", -100);
        reads("{", -100);
        reads("A", -100);
        reads("Z", -100);
        reads("aB", -101);
        reads("\u00e4", -100);
    }

    @Says(promise = 0, value = "a NUMBER a row of digits, 9 at most (likewise),")
    private static void aNumberHasNineDigitsAtMost() {
        for (int d = '0'; d <= '9'; d++) {
            Run x = new Run();
            x.feed(d);
            check.due("digit " + d, x.read(), 1);
            check.due("kind of digit " + d, x.token(0, 0), 1);
        }
        reads("12345678", 1);
        reads("123456789", 1);
        reads("1234567890", -100);
        reads("123456789012345678", -100);
        reads("000000000", 1);
        reads("0000000000", -100);
        reads("a 1234567890", -102);
        Run x = Run.afterRead("a123456789b");
        check.due("three tokens", x.count(0), 3);
        check.due("as long as can be", x.token(1, 2), 9);
    }

    @Says(promise = 0, value = "a MARK any one of ! \" $ % & ( ) * + , - . / : ; < = > ? @ [ ] ^ _ | (one byte);")
    private static void aMarkIsOneByte() {
        for (int b = 1; b < 256; b++) {
            Run x = new Run();
            x.feed(b);
            x.read();
            boolean mark = MARKS.indexOf(b) >= 0;
            check.due("whether byte " + b + " is a MARK", x.token(0, 0) == 2 ? 1 : 0, mark ? 1 : 0);
            x.readAnew("a" + (char) b + (char) b);
            check.due("whether byte " + b + " is one twice", x.count(0) == 3 && x.token(2, 0) == 2 ? 1 : 0, mark ? 1 : 0);
        }
        Run x = new Run();
        x.feedAll(MARKS);
        check.due("all of them", x.read(), 25);
        for (int k = 0; k < 25; k++) {
            check.due("one byte each: " + k, x.token(k, 2), 1);
        }
    }

    @Says(promise = 0, value = "a QUOTE all from one ' to the next one (over ends of LINES, too),")
    private static void aQuoteGoesToTheNext() {
        reads("''", 1);
        reads("'''", -102);
        reads("''''", 2);
        reads("'a b'", 1);
        reads("'a'b'c'", 3);
        reads("'a # { \u00c8 ABC 1234567890 abcdefghi'", 1);
        reads("'\n'", 1);
        reads("'a\n\n b' c", 2);
        reads("a'b'", 2);
        Run x = Run.afterRead("a 'b\nc' d");
        check.due("kind", x.token(1, 0), 3);
        check.due("bytes, both ' too", x.token(1, 2), 5);
        check.due("the one behind it", x.token(2, 1), 8);
        Run longest = new Run();
        longest.feedAll("'" + "x\n".repeat(299) + "'");
        check.due("600 bytes", longest.read(), 1);
        check.due("all of them", longest.token(0, 2), 600);
    }

    @Says(promise = 0, value = "a NOTE all from # to the end of its LINE (it is no TOKEN).")
    private static void aNoteGoesToTheEndOfItsLine() {
        reads("#", 0);
        reads("# a b", 0);
        reads("#\na", 1);
        reads("a#b c\nd", 2);
        reads("a # ' { \u00c8 ( abcdefghi\nb", 2);
        reads("a # x # y\nb", 2);
        reads("##\n##", 0);
        reads("#" + "x".repeat(599), 0);
        check.tree("a # do\nb", "a ; b");
        check.tree("do # x\n  # y\n b", "do { b }");
    }

    private static int kindOfBlock(int kind) {
        Run x = new Run();
        x.opener(Run.word("o"), kind);
        x.feedAll("o\n a");
        x.read();
        return x.block(1, 0);
    }

    @Says(promise = 0, value = "OPENERS are WORDS or MARKS that open a BLOCK: of a KIND 1 DEEPER, 2 HUNG, 3 LISTED, 5 LET.")
    private static void openersAreWordsOrMarks() {
        for (int kind : new int[] {1, 2, 3, 5}) {
            check.due("kind " + kind, kindOfBlock(kind), kind);
        }
        Run x = new Run();
        x.opener(Run.word("open"), 2);
        x.opener('+', 3);
        x.feedAll("open a + b ope n opens c");
        x.read();
        check.due("by a word and a mark alone", x.count(1), 3);
        check.due("by the word", x.block(1, 7), 0);
        check.due("by the mark", x.block(2, 7), 2);
        x.readAnew("'open' a '+' b");
        check.due("a quote opens none", x.count(1), 1);
    }

    @Says(promise = 0, value = "PAIRS are two MARKS: the one opens a BRACKETED BLOCK, the other one ends it.")
    private static void pairsAreTwoMarks() {
        Run x = new Run();
        x.pair('<', '?');
        x.feedAll("a < b\nc ? d");
        check.due("six", x.read(), 6);
        check.due("bracketed", x.block(1, 0), 4);
        check.due("from behind the one", x.block(1, 4), 2);
        check.due("to the other one", x.block(1, 5), 3);
        check.due("it is ended", x.token(5, 7), 0);
        x.readAnew("a ? b");
        check.due("the other one opens none", x.fault(0), 5);
        x.readAnew("a '<' b");
        check.due("nor does a quote", x.count(1), 1);
    }

    @Says(promise = 0, value = "CLOSERS are WORDS that end a LET. A GOER is a MARK.")
    private static void closersAndGoers() {
        check.tree("let x in y", "let { x } in y");
        check.tree("let x 'in' y", "let { x 'in' y }");
        check.tree("of x in y", "of { x in y }");
        check.tree("hang x in y", "hang { x in y }");
        check.tree("a -\n b", "a - b");
        check.tree("a '-'\n b", "4@7");
    }

    @Says(promise = 0, value = "8 OPENERS, 4 PAIRS, 4 CLOSERS, 4 GOERS at most;")
    private static void theMostOfEach() {
        Run x = fullBook();
        check.due("a ninth opener", x.opener(Run.word("zz"), 1), FULL);
        check.due("a ninth opener by a mark", x.opener('^', 1), FULL);
        check.due("a fifth pair", x.pair('^', '_'), FULL);
        check.due("a fifth closer", x.closer(Run.word("zz")), FULL);
        check.due("a fifth goer", x.goer('|'), FULL);
        x.feedAll("h x\np (a) [b] <c> !d?/\n y -\nz");
        x.read();
        x.plain();
        check.due("the last of each is told", x.page(), "h { x } ; p ( a ) [ b ] < c > ! d ? / y - z");
    }

    @Says(promise = 0, value = "8 OPENERS, 4 PAIRS, 4 CLOSERS, 4 GOERS at most;")
    private static void noneIsFullForAnother() {
        Run x = new Run();
        for (int i = 1; i <= 8; i++) {
            check.due("opener " + i, x.opener('a' + i, 1), i);
        }
        check.due("a ninth", x.opener('z', 1), FULL);
        for (int i = 1; i <= 4; i++) {
            check.due("pair " + i, x.pair("([<!".charAt(i - 1), ")]>?".charAt(i - 1)), i);
        }
        check.due("a fifth", x.pair('^', '_'), FULL);
        for (int i = 1; i <= 4; i++) {
            check.due("closer " + i, x.closer('p' + i), i);
        }
        check.due("a fifth closer", x.closer('z'), FULL);
        for (int i = 1; i <= 4; i++) {
            check.due("goer " + i, x.goer("-+*/".charAt(i - 1)), i);
        }
        check.due("a fifth goer", x.goer('^'), FULL);
    }

    /** The ways in which a mark or word can be told. */
    private static int tell(Run x, int way, char name) {
        switch (way) {
            case 0: return x.opener(name, 1);
            case 1: return x.pair(name, '|');
            case 2: return x.pair('_', name);
            case 3: return x.goer(name);
            default: return x.closer(name);
        }
    }

    @Says(promise = 0, value = "no WORD or MARK is told twice in all these.")
    private static void nothingIsToldTwice() {
        for (int once = 0; once < 4; once++) {
            for (int again = 0; again < 4; again++) {
                Run x = new Run();
                check.due("mark by " + once, tell(x, once, '+'), 1);
                check.due("mark by " + once + " and by " + again, tell(x, again, '+'), STATE);
            }
        }
        for (int once = 0; once < 5; once += 4) {
            for (int again = 0; again < 5; again += 4) {
                Run x = new Run();
                check.due("word by " + once, tell(x, once, 'w'), 1);
                check.due("word by " + once + " and by " + again, tell(x, again, 'w'), STATE);
            }
        }
        Run x = new Run();
        x.opener(Run.word("do"), 1);
        check.due("of another kind", x.opener(Run.word("do"), 5), STATE);
        check.due("a longer one is another", x.closer(Run.word("dot")), 1);
        check.due("a shorter one is another", x.closer(Run.word("d")), 2);
    }

    @Says(promise = 0, value = "TAB: 0 (at first), or 1 .. 8.")
    private static void tabIsNoughtAtFirst() {
        check.due("at first", new Run().tab(0), 0);
        for (int n = 0; n <= 8; n++) {
            Run x = new Run();
            check.due("tab " + n, x.tab(n), 0);
            check.due("it is " + n, x.tab(n), n);
        }
        check.due("tab -1", new Run().tab(-1), OUTSIDE);
        check.due("tab 9", new Run().tab(9), OUTSIDE);
        Run x = new Run();
        x.feedAll("a\tb");
        x.read();
        check.due("a byte 9 is a fault at first", x.fault(0), 2);
    }
}
