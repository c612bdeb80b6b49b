/** 'Terms', 3 THE TREE: what is done with each token, rule by rule. */
public final class RulesTest {
    private static final int NONE = -9;
    private static final Check check = new Check();

    public static void main(String[] args) {
        check.runAll(RulesTest.class);
    }

    private static void tree(String text, String want) {
        check.tree(text, want);
    }

    private static void fault(String text, int kind, int place) {
        check.tree(text, kind + "@" + place);
    }

    @Says(promise = 0, value = {"==== 3 THE TREE.", "BLOCKS hold ITEMS, an ITEM holds TOKENS and BLOCKS, in order."})
    private static void itemsHoldTokensAndBlocksInOrder() {
        Run x = Run.afterRead("a (b) c [d]\ne");
        check.due("flat has two items", x.block(0, 3), 2);
        int[] parts = {0, 1, -101, 3, 4, 5, -102, 7};
        for (int i = 0; i < parts.length; i++) {
            check.due("part " + i, x.part(0, i), parts[i]);
        }
        check.due("no more of them", x.item(0, 3), 8);
    }

    @Says(promise = 0, value = "BLOCK 0 is FLAT (KIND 0), with COLUMN 0; each other one is in an ITEM.")
    private static void blockNoughtIsFlat() {
        for (String text : new String[] {"", "a", "of a"}) {
            Run x = Run.afterRead(text);
            check.due("kind, of [" + text + "]", x.block(0, 0), 0);
            check.due("column, of [" + text + "]", x.block(0, 1), 0);
            check.due("in no item, of [" + text + "]", x.block(0, 2), NONE);
        }
        Run x = Run.afterRead("of a (b)\n   c =");
        check.due("listed is in item 0", x.block(1, 2), 0);
        check.due("bracketed is in item 1", x.block(2, 2), 1);
        check.due("the empty one is in item 3", x.block(3, 2), 3);
        fault(" a", 4, 1);
        fault("\n  a", 4, 3);
    }

    @Says(promise = 0, value = {"TOKENS are taken one by one, with a pile of BLOCKS that are open, FLAT the lowest;",
        "each that is open has its latest ITEM."})
    private static void eachOpenBlockHasItsLatestItem() {
        tree("do\n a\n b do\n  c\n  d e\n f g\nh", "do { a ; b do { c ; d e } ; f g } ; h");
        tree("a\nof b\n   c (d) e\nf", "a ; of { b ; c ( d ) e } ; f");
        Run deep = Run.afterRead("=".repeat(600));
        check.due("600 piled up on FLAT, the topmost an empty one", deep.count(1), 601);
        check.due("the deepest", deep.block(600, 6), 600);
        Run brackets = Run.afterRead("(".repeat(300) + ")".repeat(300));
        check.due("300 bracketed ones", brackets.count(1), 301);
        check.due("the deepest of them", brackets.block(300, 6), 300);
        check.due("the last mark is flat again", brackets.token(599, 7), 0);
    }

    @Says(promise = 0, value = "Of each TOKEN the first of these that fits is done:")
    private static void theFirstThatFitsIsDone() {
        tree("let\n a\n in b", "let { a } in b");
        tree("do\n let a\n in b\n c", "do { let { a } in b ; c }");
        tree("do\n let a\n     in\n b", "do { let { a } in ; b }");
        tree("of let\n   in", "of { let { } ; in }");
        fault("do\n a\n )", 5, 7);
        tree("of\n a\n of\n b", "of { a ; of { } ; b }");
        fault("do\n a\n do\n b", 3, 11);
    }

    // ---- (a)

    @Says(promise = 0,
            value = "(a) It is right behind an OPENER that was taken while the topmost BLOCK was not BRACKETED.")
    private static void anOpenerWithinABracketedBlockOpensNone() {
        tree("(do x)", "( do x )");
        tree("(do\n x)\na", "( do x ) ; a");
        tree("(do)\na", "( do ) ; a");
        tree("(of x)", "( of x )");
        tree("[let x in y]", "[ let x in y ]");
        tree("(of) x", "( of ) x");
        tree("of (of x) y", "of { ( of x ) y }");
        tree("() of x", "( ) of { x }");
        tree("(a) do\n x", "( a ) do { x }");
        tree("of x y of z", "of { x y of { z } }");
    }

    @Says(promise = 0, value = "DEEPER: it has to be a HEAD,")
    private static void deeperWantsAHead() {
        tree("do\n a", "do { a }");
        fault("do a", 3, 3);
        fault("a do b", 3, 5);
        fault("do (a)", 3, 3);
        fault("do 'x\n  ' b", 3, 3);
        tree("do\n 'x'", "do { 'x' }");
        tree("do\n\n# n\n  a", "do { a }");
    }

    @Says(promise = 0, value = "at a COLUMN above the topmost BLOCK's")
    private static void deeperWantsAColumnAboveTheBlock() {
        fault("do\na", 3, 3);
        tree("do\n a", "do { a }");
        fault("do\n  b do\n  c", 3, 12);
        fault("do\n  b do\n c", 3, 11);
        tree("do\n  b do\n   c", "do { b do { c } }");
        fault("of a do\n   b", 3, 11);
        fault("of a do\n  b", 3, 10);
        tree("of a do\n    b", "of { a do { b } }");
        tree("hang a do\n      b", "hang { a do { b } }");
        fault("hang a do\n     b", 3, 15);
    }

    @Says(promise = 0, value = "and above that of the HEAD ahead of it,")
    private static void deeperWantsAColumnAboveTheHeadAhead() {
        fault("of a\n     b do\n    c", 3, 19);
        fault("of a\n     b do\n     c", 3, 20);
        tree("of a\n     b do\n      c", "of { a b do { c } }");
        fault("let a\n      b c do\n     d", 3, 24);
        tree("let a\n      b c do\n       d", "let { a b c do { d } }");
        tree("let a\n        in do\n         c", "let { a } in do { c }");
        fault("let a\n        in do\n        c", 3, 28);
        tree("a -\n    do\n  c", "a - do { c }");
        tree("a (\n    b) do\n  c", "a ( b ) do { c }");
        tree("of a\n      b\n   c do\n    d", "of { a b ; c do { d } }");
    }

    @Says(promise = 0,
            value = "and neither a CLOSER nor the second MARK of a PAIR (else FAULT WANTED): a BLOCK of its COLUMN begins.")
    private static void deeperWantsNoCloserAndNoSecondMark() {
        fault("do\n in", 3, 4);
        fault("let a do\n          in", 3, 19);
        fault("do\n )", 3, 4);
        fault("do\n ]", 3, 4);
        tree("do\n (a)", "do { ( a ) }");
        tree("do\n of a", "do { of { a } }");
        tree("do\n - a", "do { - a }");
        Run x = Run.afterRead("a do\n     b");
        check.due("kind", x.block(1, 0), 1);
        check.due("a block of its column", x.block(1, 1), 5);
    }

    @Says(promise = 0, value = "HUNG, LISTED, LET: if its COLUMN is above the topmost BLOCK's,")
    private static void othersWantAColumnAboveTheBlock() {
        for (String opener : new String[] {"hang", "of", "let", "="}) {
            tree(opener + " a", opener + " { a }");
            tree(opener + "\n a", opener + " { a }");
            tree(opener + "\na", opener + " { } ; a");
            tree("do\n  " + opener + "\n   a", "do { " + opener + " { a } }");
            tree("do\n  " + opener + "\n  a", "do { " + opener + " { } ; a }");
            tree("do\n  " + opener + "\na", "do { " + opener + " { } } ; a");
            fault("do\n  " + opener + "\n a", 4, 5 + opener.length() + 2);
            tree("do\n  " + opener + " -\n a", "do { " + opener + " { - a } }");
        }
        tree("of\n     a -\n of\n      b", "of { a - of { b } }");
        tree("of\n     a -\n of\n     b", "of { a - of { } ; b }");
        fault("of\n     a -\n of\n    b", 4, 20);
    }

    @Says(promise = 0, value = "and it is neither a CLOSER nor the second MARK of a PAIR, a BLOCK of its COLUMN begins;")
    private static void othersBeginNoneByACloserOrASecondMark() {
        for (String opener : new String[] {"hang", "of", "let", "="}) {
            fault(opener + " )", 5, opener.length() + 1);
            tree("let a " + opener + " in b", opener.equals("let") ? "let { a let { } } in b"
                    : "let { a " + opener + " { } } in b");
            Run x = Run.afterRead("a " + opener + "   b");
            check.due("a block of its column by " + opener, x.block(1, 1), opener.length() + 5);
            tree(opener + " (a)", opener + " { ( a ) }");
            tree(opener + " - a", opener + " { - a }");
        }
    }

    @Says(promise = 0, value = "else an EMPTY one (with no ITEM, ended at once), and it is looked at by (b) to (e).")
    private static void anEmptyBlockEndsAtOnce() {
        Run x = Run.afterRead("a of\nb");
        check.due("it is there", x.count(1), 2);
        check.due("of its kind", x.block(1, 0), 3);
        check.due("with no item", x.block(1, 3), 0);
        check.due("ended at once: the token is in FLAT", x.token(2, 7), 0);
        tree("let in x", "let { } in x");
        tree("let let in x", "let { let { } } in x");
        tree("do\n  of\n  x", "do { of { } ; x }");
        tree("of =\n   b", "of { = { } ; b }");
        tree("of =\n  b", "4@7");
        tree("of a -\nof b", "of { a - of { } b }");
        tree("of a -\nof\n    b", "of { a - of { b } }");
        tree("of a -\nof\n   b", "of { a - of { } ; b }");
        tree("of a -\nhang of b", "of { a - hang { of { b } } }");
        tree("of a -\nof of b", "of { a - of { } of { b } }");
        fault("of\n )", 5, 4);
    }

    @Says(promise = 0, value = "The BLOCK is in the ITEM of the OPENER; the TOKEN begins its first ITEM.")
    private static void theBlockIsInTheItemOfTheOpener() {
        Run x = Run.afterRead("a\nb of c\nd hang\ne do\n f");
        int[] holders = {NONE, 1, 3, 4};
        int[] firsts = {0, 3, NONE, 8};
        for (int b = 0; b < holders.length; b++) {
            check.due("item that holds block " + b, x.block(b, 2), holders[b]);
            check.due("first token of block " + b, x.block(b, 4), firsts[b]);
        }
        check.due("the opener's item", x.token(2, 6), 1);
        check.due("c begins item 2", x.item(2, 1), 3);
        check.due("which is the first of its block", x.item(2, 4), 0);
        check.due("and of that block", x.item(2, 0), 1);
    }

    // ---- (b) to (e)

    @Says(promise = 0, value = "(b) It is a CLOSER, and a LET is open above all BRACKETED ones:")
    private static void aCloserWantsALetAboveAllBracketedOnes() {
        tree("let x in y", "let { x } in y");
        tree("in x", "in x");
        tree("a in\nin", "a in ; in");
        fault("a\n in", 4, 3);
        tree("of a in b", "of { a in b }");
        tree("let x (in) in y", "let { x ( in ) } in y");
        tree("let (x [in] in) in y", "let { ( x [ in ] in ) } in y");
        tree("(let x in)", "( let x in )");
        tree("let x in in", "let { x } in in");
        tree("let x\ny in", "let { x } ; y in");
    }

    @Says(promise = 0, value = "the topmost such LET and all above it are ended; it goes on the ITEM that holds this LET.")
    private static void aCloserEndsTheTopmostLet() {
        tree("let let x in in y", "let { let { x } in } in y");
        tree("let let x in y", "let { let { x } in y }");
        tree("let x of y in z", "let { x of { y } } in z");
        tree("let of x do\n         y\n in z", "let { of { x do { y } } } in z");
        tree("of let x in y\n   z", "of { let { x } in y ; z }");
        tree("let x let y of z in a\n    b", "let { x let { y of { z } } in a ; b }");
        Run x = Run.afterRead("a let b\n  in c");
        check.due("in the item that holds the let", x.token(3, 6), 0);
        check.due("though it is a head", x.token(3, 5), 1);
        check.due("part of it behind the let", x.part(0, 3), 3);
    }

    @Says(promise = 0, value = "(c) It is the second MARK of a PAIR: the topmost BLOCK is the BRACKETED one of that PAIR "
            + "(else FAULT CLOSE): it is ended;")
    private static void aSecondMarkWantsItsBracketedBlock() {
        tree("()", "( )");
        tree("([a](b))", "( [ a ] ( b ) )");
        fault(")", 5, 0);
        fault("a )", 5, 2);
        fault("(a]", 5, 2);
        fault("([a)]", 5, 3);
        fault("()) ", 5, 2);
        fault("of a)", 5, 4);
        fault("let a )", 5, 6);
        fault("do\n  b )", 5, 7);
        fault("(a) b ]", 5, 6);
    }

    @Says(promise = 0, value = "the MARK goes on the ITEM that holds it.")
    private static void aSecondMarkGoesOnTheItem() {
        Run x = Run.afterRead("a\nb (c) d");
        check.due("the item of the first mark", x.token(2, 6), 1);
        check.due("the item of the second mark", x.token(4, 6), 1);
        check.due("and of the one behind it", x.token(5, 6), 1);
        check.due("its part", x.part(1, 3), 4);
        tree("(a\n)\nb", "( a ) ; b");
        tree("of (a\n)\n   b", "of { ( a ) ; b }");
        tree("do\n  (\nb\n)\n  c", "do { ( b ) ; c }");
    }

    @Says(promise = 0, value = "(d) It is a HEAD: BLOCKS whose COLUMN is above its are ended, from the topmost on;")
    private static void aHeadEndsBlocksOfGreaterColumns() {
        tree("do\n  a\nb", "do { a } ; b");
        tree("do\n  a do\n    b do\n      c\nd", "do { a do { b do { c } } } ; d");
        tree("do\n  a do\n    b do\n      c\n  d", "do { a do { b do { c } } ; d }");
        tree("do\n  a do\n    b do\n      c\n    d", "do { a do { b do { c } ; d } }");
        tree("of a = b\n   c", "of { a = { b } ; c }");
        tree("of a = b\n       c", "of { a = { b ; c } }");
        tree("let a = b\nc", "let { a = { b } } ; c");
    }

    @Says(promise = 0, value = "then, if its COLUMN is that of the topmost one, it begins a new ITEM of that;")
    private static void aHeadOfTheBlocksColumnBeginsAnItem() {
        tree("a\nb", "a ; b");
        tree("do\n a\n b", "do { a ; b }");
        tree("hang a\n     b", "hang { a ; b }");
        tree("of a\n   b", "of { a ; b }");
        tree("let a\n    b", "let { a ; b }");
        check.due("300 items", Run.afterRead("a\n".repeat(300)).block(0, 3), 300);
    }

    @Says(promise = 0, value = "else, if that is LISTED, LET, it goes on its ITEM;")
    private static void aHeadWithinAListedOrLetGoesOn() {
        tree("of a\n    b", "of { a b }");
        tree("of a\n        b\n     c\n   d", "of { a b c ; d }");
        tree("let a\n     b", "let { a b }");
        tree("of a = b\n    c", "of { a = { b } c }");
        tree("let a do\n       x\n     y", "let { a do { x } y }");
        Run x = Run.afterRead("of a\n    b");
        check.due("though it is a head", x.token(2, 5), 1);
    }

    @Says(promise = 0, value = "else FAULT IN.")
    private static void anyOtherHeadIsAFault() {
        fault("a\n b", 4, 3);
        fault("do\n  a\n b", 4, 8);
        fault("do\n  a\n   b", 4, 10);
        fault("hang a\n      b", 4, 13);
        fault("hang a\n    b", 4, 11);
        fault("of a\n  b", 4, 7);
        fault("let a\n   b", 4, 9);
        fault("of a = b\n        c", 4, 17);
    }

    @Says(promise = 0, value = "(e) It goes on the ITEM of the topmost BLOCK.")
    private static void anyOtherTokenGoesOn() {
        tree("a b 7 'q' ; -", "a b 7 'q' ; -");
        tree("do\n a b\n c d\ne f", "do { a b ; c d } ; e f");
        tree("(a\nb)", "( a b )");
        tree("a -\nb", "a - b");
        tree("of a b\n   c d", "of { a b ; c d }");
        tree("a (b in c) d", "a ( b in c ) d");
    }

    // ---- brackets, the end, numbers

    @Says(promise = 0, value = "Then, if it is the first MARK of a PAIR, a BRACKETED BLOCK begins, behind it in its ITEM, "
            + "with one ITEM and the COLUMN of the BLOCK below it.")
    private static void aFirstMarkBeginsABracketedBlock() {
        Run x = Run.afterRead("a of (b [c])\n()");
        int[][] blocks = {{0, 0, NONE, 2}, {3, 5, 0, 1}, {4, 5, 1, 1}, {4, 5, 2, 1}, {4, 0, 4, 1}};
        for (int b = 0; b < blocks.length; b++) {
            for (int what = 0; what < 4; what++) {
                check.due("block(" + b + ", " + what + ")", x.block(b, what), blocks[b][what]);
            }
        }
        check.due("behind the mark", x.part(4, 1), -104);
        check.due("an item without a token", x.item(5, 1), NONE);
        check.due("it holds nothing", x.item(5, 3), 0);
        tree("do\n (", "6@4");
    }

    @Says(promise = 0, value = "At the end: is the last TOKEN an OPENER as in (a): DEEPER: FAULT WANTED (at the end);")
    private static void aDeeperOpenerAtTheEnd() {
        fault("do", 3, 2);
        fault("do\n", 3, 3);
        fault("do # n", 3, 6);
        fault("do\n  \n\n", 3, 7);
        fault("do\n a:", 3, 6);
        fault("(do", 6, 0);
        tree("(do)", "( do )");
        tree("do\n a", "do { a }");
        fault("do" + " ".repeat(598), 3, 600);
    }

    @Says(promise = 0, value = "others: an EMPTY BLOCK.")
    private static void anotherOpenerAtTheEnd() {
        tree("of", "of { }");
        tree("hang\n", "hang { }");
        tree("a let # n", "a let { }");
        tree("do\n a =", "do { a = { } }");
        tree("= = =", "= { = { = { } } }");
        fault("(of", 6, 0);
        tree("(of)", "( of )");
        Run x = Run.afterRead("of a hang");
        check.due("in the item of the opener", x.block(2, 2), 1);
        check.due("two are around it", x.block(2, 6), 2);
    }

    @Says(promise = 0, value = {"If a BRACKETED BLOCK is open, FAULT OPEN (at the first MARK of the lowest one).",
        "All others are ended."})
    private static void aBracketedBlockThatIsOpenAtTheEnd() {
        fault("(", 6, 0);
        fault("((a)", 6, 0);
        fault("a (b [c", 6, 2);
        fault("() (a", 6, 3);
        fault("of a\n   b (c\nd", 6, 10);
        fault("([" + "(".repeat(598), 6, 0);
        tree("do\n a of b = c", "do { a of { b = { c } } }");
        tree("let a", "let { a }");
    }

    @Says(promise = 0, value = "BLOCKS are numbered as they begin (EMPTY ones too), ITEMS as they begin, in all.")
    private static void numbersFollowTheBeginnings() {
        Run x = Run.afterRead("a of\nb (c) do\n d hang\n e let f\nin g =");
        int[] kinds = {0, 3, 4, 1, 2, 5, 2};
        int[] beginners = {NONE, 1, 3, 6, 8, 10, 14};
        for (int b = 0; b < kinds.length; b++) {
            check.due("kind of block " + b, x.block(b, 0), kinds[b]);
            check.due("beginner of block " + b, x.block(b, 7), beginners[b]);
        }
        int[] owners = {0, 0, 2, 3, 3, 5};
        int[] firsts = {0, 2, 4, 7, 9, 11};
        for (int i = 0; i < owners.length; i++) {
            check.due("block of item " + i, x.item(i, 0), owners[i]);
            check.due("first token of item " + i, x.item(i, 1), firsts[i]);
        }
        check.due("no more blocks", x.count(1), 7);
        check.due("no more items", x.count(2), 6);
    }
}
