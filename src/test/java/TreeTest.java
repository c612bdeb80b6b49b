import java.util.function.Supplier;
import java.util.function.ToIntFunction;

/** Promises 14 to 21: count, token, block, item, part, itemAs, reach, around. */
public final class TreeTest {
    private static final int UNKNOWN = -1, OUTSIDE = -2, STATE = -3, NONE = -9, CAST = -11, INDEX = -12;
    private static final int[] FAR = {Integer.MIN_VALUE, -101, -9, -1, 600, 601, 1200, Integer.MAX_VALUE};
    private static final String TEXT = "let x (b)\n    y do\n      'q\nr' 12\n  in of\nz -\n 7";
    private static final int[][] TOKENS = {
        {0, 0, 3, 0, 0, 1, 0, 0}, {0, 4, 1, 0, 4, 0, 1, 1}, {2, 6, 1, 0, 6, 0, 1, 1}, {0, 7, 1, 0, 7, 0, 2, 2},
        {2, 8, 1, 0, 8, 0, 1, 1}, {0, 14, 1, 1, 4, 1, 3, 1}, {0, 16, 2, 1, 6, 0, 3, 1}, {3, 25, 5, 2, 6, 1, 4, 3},
        {1, 31, 2, 3, 3, 0, 4, 3}, {0, 36, 2, 4, 2, 1, 0, 0}, {0, 39, 2, 4, 5, 0, 0, 0}, {0, 42, 1, 5, 0, 1, 5, 0},
        {2, 44, 1, 5, 2, 0, 5, 0}, {1, 47, 1, 6, 1, 0, 5, 0},
    };
    private static final int[][] BLOCKS = {
        {0, 0, NONE, 2, 0, 13, 0, NONE}, {5, 4, 0, 2, 1, 8, 1, 0}, {4, 4, 1, 1, 3, 3, 2, 2}, {1, 6, 3, 1, 7, 8, 2, 6},
        {3, NONE, 0, 0, NONE, NONE, 1, 10},
    };
    private static final int[][] ITEMS = {
        {0, 0, 10, 5, 0}, {1, 1, 4, 4, 0}, {2, 3, 3, 1, 0}, {1, 5, 8, 3, 1}, {3, 7, 8, 2, 0}, {0, 11, 13, 3, 1},
    };
    private static final int[][] PARTS = {
        {0, -101, 9, 10, -104}, {1, 2, -102, 4}, {3}, {5, 6, -103}, {7, 8}, {11, 12, 13},
    };
    private static final int[][] BLOCK_REACHES = {
        {0, 0, 6, 1}, {0, 4, 3, 4}, {0, 7, 0, 7}, {2, 6, 3, 4}, {NONE, NONE, NONE, NONE},
    };
    private static final int[][] ITEM_REACHES = {
        {0, 0, 4, 6}, {0, 4, 0, 8}, {0, 7, 0, 7}, {1, 4, 3, 4}, {2, 6, 3, 4}, {5, 0, 6, 1},
    };
    /** Blocks of all kinds: 0 flat, 1 deeper, 2 listed, 3 hung, 4 bracketed, 5 let. */
    private static final String ALL_KINDS = "do\n a of b\n      c\n hang d (e)\n let f";
    private static final Check check = new Check();

    public static void main(String[] args) {
        check.runAll(TreeTest.class);
    }

    private static Run read() {
        return Run.afterRead(TEXT);
    }

    private static void column(int[][] rows, int what, boolean blocks) {
        Run x = read();
        for (int k = 0; k < rows.length; k++) {
            check.due((blocks ? "block(" : "item(") + k + ", " + what + ")", blocks ? x.block(k, what) : x.item(k, what),
                    rows[k][what]);
        }
    }

    /** Asked without a reading: of a text that was not read, is read no more, or has a fault. */
    private static void withoutAReading(String call, ToIntFunction<Run> asked) {
        check.refused(call + " of a new object", Run::new, asked, STATE);
        check.refused(call + " of what was not read", () -> Run.withText("a of b"), asked, STATE);
        check.refused(call + " of what is read no more", () -> {
            Run x = Run.afterRead("a of b");
            x.feed(0);
            return x;
        }, asked, STATE);
        for (String text : new String[] {"a {", "a\tb", "do a", "a\n b", "a )", "a ("}) {
            check.refused(call + " of [" + text + "]", () -> Run.afterRead(text), asked, STATE);
        }
    }

    private static void unknown(String call, int first, ToIntFunction<Run> atFirst, ToIntFunction<Run> atLast) {
        check.due(call + " of the last that there is", atLast.applyAsInt(read()) >= 0 ? 1 : 0, 1);
        check.refused(call + " of the first that there is not, " + first, TreeTest::read, atFirst, UNKNOWN);
    }

    // ---- 14

    @Says(promise = 14, value = "0 TOKENS, 1 BLOCKS, 2 ITEMS,")
    private static void countOfTokensBlocksItems() {
        int[] wants = {14, 5, 6};
        int[] empty = {0, 1, 0};
        int[] most = {600, 601, 600};
        for (int what = 0; what < 3; what++) {
            check.due("count(" + what + ")", read().count(what), wants[what]);
            check.due("count(" + what + ") of nothing", Run.afterRead("").count(what), empty[what]);
            check.due("count(" + what + ") of the most", Run.afterRead("=".repeat(600)).count(what), most[what]);
        }
        Run brackets = Run.afterRead("()".repeat(300));
        check.due("blocks of brackets", brackets.count(1), 301);
        check.due("items of brackets, the empty ones too", brackets.count(2), 301);
    }

    @Says(promise = 14, value = "3 LINES of THE TEXT, 4 its bytes;")
    private static void countOfLinesAndBytes() {
        String[] texts = {"", "a", "a\n", "a\nb", "a {", "\n\n"};
        int[] lines = {0, 1, 1, 2, 1, 2};
        for (int i = 0; i < texts.length; i++) {
            Run x = Run.withText(texts[i]);
            for (int readings = 0; readings < 2; readings++) {
                check.due("lines of [" + texts[i] + "]", x.count(3), lines[i]);
                check.due("bytes of [" + texts[i] + "]", x.count(4), texts[i].length());
                x.read();
            }
        }
        Run x = read();
        check.due("lines", x.count(3), 7);
        check.due("bytes", x.count(4), 48);
        x.feedAll("\na");
        check.due("lines of now, though not read", x.count(3), 8);
        check.due("bytes of now", x.count(4), 50);
        check.due("600", Run.withText("\n".repeat(600)).count(4), 600);
    }

    @Says(promise = 14, value = "0 to 2: STATE: it is not read, or has a FAULT.")
    private static void countWithoutAReading() {
        withoutAReading("count(0)", x -> x.count(0));
        withoutAReading("count(1)", x -> x.count(1));
        withoutAReading("count(2)", x -> x.count(2));
    }

    @Says(promise = 14, value = "OUTSIDE.")
    private static void aCountOutside() {
        for (int what : new int[] {-1, 5, Integer.MIN_VALUE, Integer.MAX_VALUE}) {
            check.refused("count(" + what + ")", TreeTest::read, x -> x.count(what), OUTSIDE);
            check.due("not read: count(" + what + ")", Run.withText("a").count(what), OUTSIDE);
            check.due("a fault: count(" + what + ")", Run.afterRead("a )").count(what), OUTSIDE);
        }
    }

    // ---- 15

    private static void tokenColumn(int what) {
        Run x = read();
        for (int k = 0; k < TOKENS.length; k++) {
            check.due("token(" + k + ", " + what + ")", x.token(k, what), TOKENS[k][what]);
        }
    }

    @Says(promise = 15, value = "TOKEN k: 0 its kind (0 WORD, 1 NUMBER, 2 MARK, 3 QUOTE),")
    private static void tokenKind() {
        tokenColumn(0);
    }

    @Says(promise = 15, value = "1 PLACE, 2 how many bytes, 3 LINE, 4 COLUMN,")
    private static void tokenPlace() {
        for (int what = 1; what < 5; what++) {
            tokenColumn(what);
        }
        Run x = Run.afterRead(";".repeat(599) + "7");
        check.due("the 600th: kind", x.token(599, 0), 1);
        check.due("the 600th: place", x.token(599, 1), 599);
        check.due("the 600th: column", x.token(599, 4), 599);
    }

    @Says(promise = 15, value = "5 whether it is a HEAD,")
    private static void tokenHead() {
        tokenColumn(5);
    }

    @Says(promise = 15, value = "6 its ITEM, 7 the BLOCK of that.")
    private static void tokenItemAndBlock() {
        tokenColumn(6);
        tokenColumn(7);
        Run x = Run.afterRead("=".repeat(600));
        check.due("the deepest item", x.token(599, 6), 599);
        check.due("the deepest block", x.token(599, 7), 599);
    }

    @Says(promise = 15, value = "STATE: as count;")
    private static void tokenWithoutAReading() {
        for (int what = 0; what < 8; what++) {
            int asked = what;
            withoutAReading("token(0, " + what + ")", x -> x.token(0, asked));
        }
        withoutAReading("token(-1, 8)", x -> x.token(-1, 8));
    }

    @Says(promise = 15, value = "UNKNOWN;")
    private static void anUnknownToken() {
        for (int what = -1; what < 9; what++) {
            int asked = what;
            unknown("token what " + what, 14, x -> x.token(14, asked), x -> x.token(13, 0));
            for (int k : FAR) {
                check.due("token(" + k + ", " + what + ")", read().token(k, what), UNKNOWN);
            }
        }
        check.due("the first of none", Run.afterRead("").token(0, 0), UNKNOWN);
        check.due("the 601st", Run.afterRead(";".repeat(600)).token(600, 0), UNKNOWN);
    }

    @Says(promise = 15, value = "OUTSIDE.")
    private static void aTokenOutside() {
        for (int what : new int[] {-1, 8, Integer.MIN_VALUE, Integer.MAX_VALUE}) {
            check.refused("token(0, " + what + ")", TreeTest::read, x -> x.token(0, what), OUTSIDE);
            check.due("token(13, " + what + ")", read().token(13, what), OUTSIDE);
        }
    }

    // ---- 16

    @Says(promise = 16, value = "BLOCK k: 0 KIND (4 BRACKETED),")
    private static void blockKind() {
        column(BLOCKS, 0, true);
        Run x = Run.afterRead(ALL_KINDS);
        int[] kinds = {0, 1, 3, 2, 4, 5};
        for (int b = 0; b < kinds.length; b++) {
            check.due("kind of block " + b, x.block(b, 0), kinds[b]);
        }
    }

    @Says(promise = 16, value = "1 COLUMN (of an EMPTY one NONE),")
    private static void blockColumn() {
        column(BLOCKS, 1, true);
        for (String opener : new String[] {"of", "let", "hang", "="}) {
            check.due("empty by " + opener + " at the end", Run.afterRead(opener).block(1, 1), NONE);
            check.due("empty by " + opener + " ahead of another", Run.afterRead(opener + "\na").block(1, 1), NONE);
            check.due("not empty by " + opener, Run.afterRead(opener + "\n a").block(1, 1), 1);
        }
        check.due("a bracketed one without a token", Run.afterRead("of ()").block(2, 1), 3);
        check.due("FLAT without a token", Run.afterRead("").block(0, 1), 0);
    }

    @Says(promise = 16, value = "2 the ITEM that holds it (of FLAT NONE),")
    private static void blockHolder() {
        column(BLOCKS, 2, true);
        check.due("of FLAT without a token", Run.afterRead("").block(0, 2), NONE);
    }

    @Says(promise = 16, value = "3 how many ITEMS,")
    private static void blockItems() {
        column(BLOCKS, 3, true);
        check.due("none of an empty text", Run.afterRead("").block(0, 3), 0);
        check.due("none of an EMPTY block", Run.afterRead("of").block(1, 3), 0);
        check.due("one of a bracketed one without a token", Run.afterRead("()").block(1, 3), 1);
        check.due("one of a bracketed one over lines", Run.afterRead("(a\nb\nc)").block(1, 3), 1);
        check.due("three", Run.afterRead("of a\n   b\n   c").block(1, 3), 3);
    }

    @Says(promise = 16, value = "4 its first TOKEN, 5 its last one (with all BLOCKS in it; both NONE, if it has none),")
    private static void blockFirstAndLast() {
        column(BLOCKS, 4, true);
        column(BLOCKS, 5, true);
        for (int what = 4; what < 6; what++) {
            check.due("of an empty text", Run.afterRead("").block(0, what), NONE);
            check.due("of an EMPTY block", Run.afterRead("of").block(1, what), NONE);
            check.due("of a bracketed one without a token", Run.afterRead("()").block(1, what), NONE);
        }
        Run x = Run.afterRead("of a = b hang c ( )");
        check.due("the last one of the outer block", x.block(1, 5), 7);
        check.due("of the next", x.block(2, 5), 7);
        check.due("of the innermost", x.block(3, 5), 7);
        check.due("an EMPTY one at its end has none to add", Run.afterRead("of a =").block(1, 5), 2);
    }

    @Says(promise = 16, value = "6 how many BLOCKS are around it,")
    private static void blockDepth() {
        column(BLOCKS, 6, true);
        check.due("none around FLAT", Run.afterRead("").block(0, 6), 0);
        check.due("599 around the deepest but one", Run.afterRead("=".repeat(600)).block(599, 6), 599);
        check.due("600 around the deepest, an EMPTY one", Run.afterRead("=".repeat(600)).block(600, 6), 600);
    }

    @Says(promise = 16, value = "7 the OPENER, first MARK by which it began (its TOKEN; of FLAT NONE).")
    private static void blockBeginner() {
        column(BLOCKS, 7, true);
        check.due("of FLAT without a token", Run.afterRead("").block(0, 7), NONE);
        check.due("of an EMPTY one at the end", Run.afterRead("a of").block(1, 7), 1);
        check.due("of an EMPTY one ahead of another", Run.afterRead("a of\nb").block(1, 7), 1);
    }

    @Says(promise = 16, value = "STATE;")
    private static void blockWithoutAReading() {
        for (int what = 0; what < 8; what++) {
            int asked = what;
            withoutAReading("block(0, " + what + ")", x -> x.block(0, asked));
        }
        withoutAReading("block(-1, 8)", x -> x.block(-1, 8));
    }

    @Says(promise = 16, value = "UNKNOWN;")
    private static void anUnknownBlock() {
        for (int what = -1; what < 9; what++) {
            int asked = what;
            unknown("block what " + what, 5, x -> x.block(5, asked), x -> x.block(4, 0));
            for (int k : FAR) {
                check.due("block(" + k + ", " + what + ")", read().block(k, what), UNKNOWN);
            }
        }
        check.due("the second of one", Run.afterRead("").block(1, 0), UNKNOWN);
        check.due("the 602nd", Run.afterRead("=".repeat(600)).block(601, 0), UNKNOWN);
    }

    @Says(promise = 16, value = "OUTSIDE.")
    private static void aBlockOutside() {
        for (int what : new int[] {-1, 8, Integer.MIN_VALUE, Integer.MAX_VALUE}) {
            check.refused("block(0, " + what + ")", TreeTest::read, x -> x.block(0, what), OUTSIDE);
            check.due("block(4, " + what + ")", read().block(4, what), OUTSIDE);
        }
    }

    // ---- 17

    @Says(promise = 17, value = "ITEM k: 0 its BLOCK,")
    private static void itemBlock() {
        column(ITEMS, 0, false);
    }

    @Says(promise = 17, value = "1 its first TOKEN, 2 its last one (with BLOCKS in it),")
    private static void itemFirstAndLast() {
        column(ITEMS, 1, false);
        column(ITEMS, 2, false);
        Run x = Run.afterRead("of a = b ( c\n)");
        check.due("the last one of the outermost", x.item(0, 2), 6);
        check.due("of the next", x.item(1, 2), 6);
        check.due("of the one in brackets", x.item(3, 2), 5);
    }

    @Says(promise = 17, value = "3 how many TOKENS and BLOCKS it holds itself")
    private static void itemParts() {
        column(ITEMS, 3, false);
        check.due("of brackets without a token", Run.afterRead("()").item(1, 3), 0);
        check.due("an EMPTY block counts", Run.afterRead("a of").item(0, 3), 3);
        check.due("900", Run.afterRead("()".repeat(300)).item(0, 3), 900);
    }

    @Says(promise = 17, value = "(1 and 2: NONE, if there is none),")
    private static void itemWithoutAToken() {
        Run x = Run.afterRead("()\n[]");
        check.due("its first", x.item(1, 1), NONE);
        check.due("its last", x.item(1, 2), NONE);
        check.due("the first of the other one", x.item(3, 1), NONE);
        check.due("the last of the other one", x.item(3, 2), NONE);
        check.due("the one around it has some", x.item(0, 2), 1);
    }

    @Says(promise = 17, value = "4 which it is in its BLOCK (0, 1, ..).")
    private static void itemRank() {
        column(ITEMS, 4, false);
        Run x = Run.afterRead("a\n".repeat(300));
        check.due("the first", x.item(0, 4), 0);
        check.due("the 300th", x.item(299, 4), 299);
    }

    @Says(promise = 17, value = "STATE;")
    private static void itemWithoutAReading() {
        for (int what = 0; what < 5; what++) {
            int asked = what;
            withoutAReading("item(0, " + what + ")", x -> x.item(0, asked));
        }
        withoutAReading("item(-1, 5)", x -> x.item(-1, 5));
    }

    @Says(promise = 17, value = "UNKNOWN;")
    private static void anUnknownItem() {
        for (int what = -1; what < 6; what++) {
            int asked = what;
            unknown("item what " + what, 6, x -> x.item(6, asked), x -> x.item(5, 0));
            for (int k : FAR) {
                check.due("item(" + k + ", " + what + ")", read().item(k, what), UNKNOWN);
            }
        }
        check.due("the first of none", Run.afterRead("").item(0, 0), UNKNOWN);
        check.due("the 601st", Run.afterRead("=".repeat(600)).item(600, 0), UNKNOWN);
    }

    @Says(promise = 17, value = "OUTSIDE.")
    private static void anItemOutside() {
        for (int what : new int[] {-1, 5, Integer.MIN_VALUE, Integer.MAX_VALUE}) {
            check.refused("item(0, " + what + ")", TreeTest::read, x -> x.item(0, what), OUTSIDE);
            check.due("item(5, " + what + ")", read().item(5, what), OUTSIDE);
        }
    }

    // ---- 18

    @Says(promise = 18, value = "Part i of ITEM k: a TOKEN's number, or -100 less a BLOCK's.")
    private static void partsOfItems() {
        Run x = read();
        for (int k = 0; k < PARTS.length; k++) {
            for (int i = 0; i < PARTS[k].length; i++) {
                check.due("part(" + k + ", " + i + ")", x.part(k, i), PARTS[k][i]);
            }
        }
        Run deep = Run.afterRead("=".repeat(600));
        check.due("the deepest token", deep.part(599, 0), 599);
        check.due("the deepest block", deep.part(599, 1), -700);
        Run wide = Run.afterRead("()".repeat(300));
        check.due("the last block of many", wide.part(0, 898), -400);
        check.due("the last token of many", wide.part(0, 899), 599);
    }

    @Says(promise = 18, value = "STATE;")
    private static void partWithoutAReading() {
        withoutAReading("part(0, 0)", x -> x.part(0, 0));
        withoutAReading("part(-1, -1)", x -> x.part(-1, -1));
    }

    @Says(promise = 18, value = "UNKNOWN;")
    private static void partOfAnUnknownItem() {
        unknown("part", 6, x -> x.part(6, 0), x -> x.part(5, 0));
        for (int k : FAR) {
            check.due("part(" + k + ", 0)", read().part(k, 0), UNKNOWN);
            check.due("part(" + k + ", -1)", read().part(k, -1), UNKNOWN);
        }
        check.due("of an empty text", Run.afterRead("").part(0, 0), UNKNOWN);
    }

    @Says(promise = 18, value = "INDEX.")
    private static void noSuchPart() {
        for (int k = 0; k < PARTS.length; k++) {
            int item = k;
            int behind = PARTS[k].length;
            check.due("the last of " + k, read().part(k, behind - 1), PARTS[k][behind - 1]);
            check.refused("behind the last of " + k, TreeTest::read, x -> x.part(item, behind), INDEX);
            check.refused("ahead of the first of " + k, TreeTest::read, x -> x.part(item, -1), INDEX);
        }
        check.due("of an item that holds nothing", Run.afterRead("()").part(1, 0), INDEX);
        check.due("greatest", read().part(0, Integer.MAX_VALUE), INDEX);
        check.due("least", read().part(0, Integer.MIN_VALUE), INDEX);
    }

    // ---- 19

    @Says(promise = 19, value = {"ITEM i of a BLOCK, taken as one of a KIND",
        "(0 FLAT: any; 1 DEEPER: also HUNG, LISTED, LET; 2 HUNG: also LISTED, LET; others just these)."})
    private static void itemsTakenAsOfAKind() {
        Run x = Run.afterRead(ALL_KINDS);
        int[] kinds = {0, 1, 3, 2, 4, 5};
        int[] firsts = {0, 1, 2, 5, 6, 8};
        String[] taken = {"012345", "1235", "235", "3", "4", "5"};
        for (int b = 0; b < 6; b++) {
            for (int kind = 0; kind < 6; kind++) {
                boolean fits = taken[kind].indexOf('0' + kinds[b]) >= 0;
                check.due("itemAs(" + b + ", " + kind + ", 0)", x.itemAs(b, kind, 0), fits ? firsts[b] : CAST);
            }
        }
        check.due("second", x.itemAs(1, 1, 1), 4);
        check.due("third", x.itemAs(1, 0, 2), 7);
        check.due("second of the list", x.itemAs(2, 2, 1), 3);
        check.due("300th", Run.afterRead("a\n".repeat(300)).itemAs(0, 0, 299), 299);
    }

    @Says(promise = 19, value = "STATE;")
    private static void itemAsWithoutAReading() {
        withoutAReading("itemAs(0, 0, 0)", x -> x.itemAs(0, 0, 0));
        withoutAReading("itemAs(-1, 6, -1)", x -> x.itemAs(-1, 6, -1));
    }

    @Says(promise = 19, value = "UNKNOWN;")
    private static void itemAsOfAnUnknownBlock() {
        unknown("itemAs", 5, x -> x.itemAs(5, 0, 0), x -> x.itemAs(3, 0, 0));
        for (int k : FAR) {
            check.due("itemAs(" + k + ", 0, 0)", read().itemAs(k, 0, 0), UNKNOWN);
            check.due("itemAs(" + k + ", 6, -1)", read().itemAs(k, 6, -1), UNKNOWN);
        }
    }

    @Says(promise = 19, value = "OUTSIDE: KIND;")
    private static void itemAsOfAKindOutside() {
        for (int kind : new int[] {-1, 6, Integer.MIN_VALUE, Integer.MAX_VALUE}) {
            for (int b = 0; b < 5; b++) {
                int block = b;
                check.refused("itemAs(" + b + ", " + kind + ", 0)", TreeTest::read, x -> x.itemAs(block, kind, 0), OUTSIDE);
            }
            check.due("ahead of INDEX", read().itemAs(0, kind, 9), OUTSIDE);
        }
    }

    @Says(promise = 19, value = "CAST;")
    private static void itemAsOfAnotherKind() {
        Supplier<Run> all = () -> Run.afterRead(ALL_KINDS);
        check.refused("FLAT as DEEPER", all, x -> x.itemAs(0, 1, 0), CAST);
        check.refused("FLAT as BRACKETED", all, x -> x.itemAs(0, 4, 0), CAST);
        check.refused("DEEPER as HUNG", all, x -> x.itemAs(1, 2, 0), CAST);
        check.refused("HUNG as LISTED", all, x -> x.itemAs(3, 3, 0), CAST);
        check.refused("LISTED as LET", all, x -> x.itemAs(2, 5, 0), CAST);
        check.refused("LET as LISTED", all, x -> x.itemAs(5, 3, 0), CAST);
        check.refused("BRACKETED as DEEPER", all, x -> x.itemAs(4, 1, 0), CAST);
        check.refused("ahead of INDEX", all, x -> x.itemAs(4, 1, 9), CAST);
        check.due("an EMPTY one", Run.afterRead("of").itemAs(1, 5, 0), CAST);
    }

    @Says(promise = 19, value = "INDEX.")
    private static void noSuchItemOfABlock() {
        int[] items = {2, 2, 1, 1, 0};
        for (int b = 0; b < items.length; b++) {
            int block = b;
            int behind = items[b];
            check.refused("behind the last of " + b, TreeTest::read, x -> x.itemAs(block, 0, behind), INDEX);
            check.refused("ahead of the first of " + b, TreeTest::read, x -> x.itemAs(block, 0, -1), INDEX);
            check.due("the last of " + b, read().itemAs(b, 0, behind - 1) >= 0 ? 1 : 0, behind > 0 ? 1 : 0);
        }
        check.due("of an empty text", Run.afterRead("").itemAs(0, 0, 0), INDEX);
        check.due("of an EMPTY block of its kind", Run.afterRead("of").itemAs(1, 3, 0), INDEX);
        check.due("greatest", read().itemAs(0, 0, Integer.MAX_VALUE), INDEX);
        check.due("least", read().itemAs(0, 0, Integer.MIN_VALUE), INDEX);
    }

    // ---- 20

    @Says(promise = 20, value = "Where a BLOCK or ITEM (block: which) reaches: 0 LINE, 1 COLUMN of its first byte,")
    private static void whereTheyBegin() {
        Run x = read();
        for (int what = 0; what < 2; what++) {
            for (int k = 0; k < BLOCK_REACHES.length; k++) {
                check.due("block " + k + ", " + what, x.reach(true, k, what), BLOCK_REACHES[k][what]);
            }
            for (int k = 0; k < ITEM_REACHES.length; k++) {
                check.due("item " + k + ", " + what, x.reach(false, k, what), ITEM_REACHES[k][what]);
            }
        }
        Run tabbed = Run.afterRead("a of\n\tb", 4);
        check.due("column behind a tab", tabbed.reach(true, 1, 1), 4);
        Run note = Run.afterRead("# n\n\na");
        check.due("line of FLAT's first byte", note.reach(true, 0, 0), 2);
    }

    @Says(promise = 20, value = "2 LINE, 3 COLUMN of its last one;")
    private static void whereTheyEnd() {
        Run x = read();
        for (int what = 2; what < 4; what++) {
            for (int k = 0; k < BLOCK_REACHES.length; k++) {
                check.due("block " + k + ", " + what, x.reach(true, k, what), BLOCK_REACHES[k][what]);
            }
            for (int k = 0; k < ITEM_REACHES.length; k++) {
                check.due("item " + k + ", " + what, x.reach(false, k, what), ITEM_REACHES[k][what]);
            }
        }
        Run quote = Run.afterRead("a 'q\n\n  r'");
        check.due("line of a quote's end", quote.reach(true, 0, 2), 2);
        check.due("column of a quote's end", quote.reach(true, 0, 3), 3);
        Run alone = Run.afterRead("\n\nab");
        for (boolean block : new boolean[] {true, false}) {
            check.due("line of the last byte of token 0", alone.reach(block, 0, 2), 2);
            check.due("column of the last byte of token 0", alone.reach(block, 0, 3), 1);
        }
        Run second = Run.afterRead("\nabc");
        check.due("line behind one without bytes", second.reach(true, 0, 2), 1);
        check.due("column behind one without bytes", second.reach(true, 0, 3), 2);
        Run word = Run.afterRead("a abcdefgh # n\n\n");
        check.due("line of a word's end", word.reach(false, 0, 2), 0);
        check.due("column of a word's last byte", word.reach(false, 0, 3), 9);
        Run tabbed = Run.afterRead("a\t'\t'", 4);
        check.due("column behind tabs", tabbed.reach(false, 0, 3), 8);
    }

    @Says(promise = 20, value = "NONE: it has no TOKEN.")
    private static void theyReachNowhere() {
        for (int what = 0; what < 4; what++) {
            check.due("FLAT of nothing", Run.afterRead("").reach(true, 0, what), NONE);
            check.due("an EMPTY block", Run.afterRead("of").reach(true, 1, what), NONE);
            check.due("an EMPTY block ahead of another", Run.afterRead("of\na").reach(true, 1, what), NONE);
            check.due("brackets", Run.afterRead("()").reach(true, 1, what), NONE);
            check.due("the item in brackets", Run.afterRead("()").reach(false, 1, what), NONE);
        }
    }

    @Says(promise = 20, value = "STATE;")
    private static void reachWithoutAReading() {
        for (int what = 0; what < 4; what++) {
            int asked = what;
            withoutAReading("reach(true, 0, " + what + ")", x -> x.reach(true, 0, asked));
            withoutAReading("reach(false, 0, " + what + ")", x -> x.reach(false, 0, asked));
        }
        withoutAReading("reach(true, -1, 4)", x -> x.reach(true, -1, 4));
    }

    @Says(promise = 20, value = "UNKNOWN;")
    private static void reachOfTheUnknown() {
        for (int what = -1; what < 5; what++) {
            int asked = what;
            unknown("reach of a block, " + what, 5, x -> x.reach(true, 5, asked), x -> x.reach(true, 3, 0));
            unknown("reach of an item, " + what, 6, x -> x.reach(false, 6, asked), x -> x.reach(false, 5, 0));
            for (int k : FAR) {
                check.due("reach(true, " + k + ", " + what + ")", read().reach(true, k, what), UNKNOWN);
                check.due("reach(false, " + k + ", " + what + ")", read().reach(false, k, what), UNKNOWN);
            }
        }
        check.due("item 0 of nothing", Run.afterRead("").reach(false, 0, 0), UNKNOWN);
    }

    @Says(promise = 20, value = "OUTSIDE.")
    private static void aReachOutside() {
        for (int what : new int[] {-1, 4, Integer.MIN_VALUE, Integer.MAX_VALUE}) {
            check.refused("reach(true, 0, " + what + ")", TreeTest::read, x -> x.reach(true, 0, what), OUTSIDE);
            check.refused("reach(false, 0, " + what + ")", TreeTest::read, x -> x.reach(false, 0, what), OUTSIDE);
            check.due("of an EMPTY one", read().reach(true, 4, what), OUTSIDE);
        }
    }

    // ---- 21

    @Says(promise = 21, value = "Whether a BLOCK is around a TOKEN (at any depth): 1, 0.")
    private static void blocksAroundTokens() {
        Run x = read();
        String[] inside = {"11111111111111", "01111111100000", "00010000000000", "00000001100000", "00000000000000"};
        for (int b = 0; b < 5; b++) {
            for (int k = 0; k < 14; k++) {
                check.due("around(" + b + ", " + k + ")", x.around(b, k), inside[b].charAt(k) - '0');
            }
        }
        Run deep = Run.afterRead("=".repeat(600));
        check.due("FLAT around the deepest", deep.around(0, 599), 1);
        check.due("the outermost around the deepest", deep.around(1, 599), 1);
        check.due("not around its opener", deep.around(1, 0), 0);
        check.due("the deepest around its own", deep.around(599, 599), 1);
        check.due("an EMPTY one around none", deep.around(600, 599), 0);
    }

    @Says(promise = 21, value = "STATE;")
    private static void aroundWithoutAReading() {
        withoutAReading("around(0, 0)", x -> x.around(0, 0));
        withoutAReading("around(-1, -1)", x -> x.around(-1, -1));
    }

    @Says(promise = 21, value = "UNKNOWN.")
    private static void aroundOfTheUnknown() {
        unknown("around, block", 5, x -> x.around(5, 0), x -> x.around(4, 0));
        unknown("around, token", 14, x -> x.around(0, 14), x -> x.around(0, 13));
        for (int k : FAR) {
            check.due("around(" + k + ", 0)", read().around(k, 0), UNKNOWN);
            check.due("around(0, " + k + ")", read().around(0, k), UNKNOWN);
            check.due("around(" + k + ", " + k + ")", read().around(k, k), UNKNOWN);
        }
        check.due("no token at all", Run.afterRead("").around(0, 0), UNKNOWN);
    }
}
