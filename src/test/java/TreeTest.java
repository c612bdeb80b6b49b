/** Promises 14 to 21: count, token, block, item, part, itemAs, reach, around. */
public final class TreeTest {
    private static final int UNKNOWN = IndentReader.UNKNOWN, OUTSIDE = IndentReader.OUTSIDE;
    private static final int STATE = IndentReader.STATE, NONE = IndentReader.NONE;
    private static final int CAST = -11, INDEX = -12;
    private static final String TEXT = "let x (b)\n    y do\n      'q\nr' 12\n  in of\nz -\n 7";
    private static final int[][] TOKENS = {
        {0, 0, 3, 0, 0, 1, 0, 0}, {0, 4, 1, 0, 4, 0, 1, 1}, {2, 6, 1, 0, 6, 0, 1, 1}, {0, 7, 1, 0, 7, 0, 2, 2},
        {2, 8, 1, 0, 8, 0, 1, 1}, {0, 14, 1, 1, 4, 1, 3, 1}, {0, 16, 2, 1, 6, 0, 3, 1}, {3, 25, 5, 2, 6, 1, 4, 3},
        {1, 31, 2, 3, 3, 0, 4, 3}, {0, 36, 2, 4, 2, 1, 0, 0}, {0, 39, 2, 4, 5, 0, 0, 0}, {0, 42, 1, 5, 0, 1, 5, 0},
        {2, 44, 1, 5, 2, 0, 5, 0}, {1, 47, 1, 6, 1, 0, 5, 0},
    };
    private static final int[][] BLOCKS = {
        {0, 0, NONE, 2, 0, 13, 0, NONE}, {5, 4, 0, 2, 1, 8, 1, 0}, {4, 4, 1, 1, 3, 3, 2, 2}, {1, 6, 3, 1, 7, 8, 2, 6},
        {3, NONE, 0, 0, NONE, NONE, 1, 10},
    };
    private static final int[][] ITEMS = {
        {0, 0, 10, 5, 0}, {1, 1, 4, 4, 0}, {2, 3, 3, 1, 0}, {1, 5, 8, 3, 1}, {3, 7, 8, 2, 0}, {0, 11, 13, 3, 1},
    };
    private static final int[][] PARTS = {
        {0, -101, 9, 10, -104}, {1, 2, -102, 4}, {3}, {5, 6, -103}, {7, 8}, {11, 12, 13},
    };
    private static final int[][] BLOCK_REACHES = {
        {0, 0, 6, 1}, {0, 4, 3, 4}, {0, 7, 0, 7}, {2, 6, 3, 4}, {NONE, NONE, NONE, NONE},
    };
    private static final int[][] ITEM_REACHES = {
        {0, 0, 4, 6}, {0, 4, 0, 8}, {0, 7, 0, 7}, {1, 4, 3, 4}, {2, 6, 3, 4}, {5, 0, 6, 1},
    };
    private static final Check check = new Check();

    public static void main(String[] args) {
        counts();
        rows();
        parts();
        itemsAs();
        reaches();
        arounds();
        emptyTextAndBracket();
        withoutAReading();
        check.end();
    }

    private static void counts() {
        IndentReader x = Check.afterRead(TEXT);
        int[] wants = {14, 5, 6, 7, 48};
        for (int what = 0; what < 5; what++) {
            check.due("count(" + what + ")", x.count(what), wants[what]);
        }
        check.due("count(5)", x.count(5), OUTSIDE);
        check.due("count(-1)", x.count(-1), OUTSIDE);
    }

    private static void rows() {
        IndentReader x = Check.afterRead(TEXT);
        for (int k = 0; k < TOKENS.length; k++) {
            for (int what = 0; what < 8; what++) {
                check.due("token(" + k + ", " + what + ")", x.token(k, what), TOKENS[k][what]);
            }
        }
        for (int k = 0; k < BLOCKS.length; k++) {
            for (int what = 0; what < 8; what++) {
                check.due("block(" + k + ", " + what + ")", x.block(k, what), BLOCKS[k][what]);
            }
        }
        for (int k = 0; k < ITEMS.length; k++) {
            for (int what = 0; what < 5; what++) {
                check.due("item(" + k + ", " + what + ")", x.item(k, what), ITEMS[k][what]);
            }
        }
        check.due("token 14", x.token(14, 0), UNKNOWN);
        check.due("token -1", x.token(-1, 0), UNKNOWN);
        check.due("token unknown ahead of outside", x.token(14, 8), UNKNOWN);
        check.due("token what 8", x.token(0, 8), OUTSIDE);
        check.due("token what -1", x.token(0, -1), OUTSIDE);
        check.due("block 5", x.block(5, 0), UNKNOWN);
        check.due("block -1", x.block(-1, 0), UNKNOWN);
        check.due("block unknown ahead of outside", x.block(5, 8), UNKNOWN);
        check.due("block what 8", x.block(4, 8), OUTSIDE);
        check.due("block what -1", x.block(4, -1), OUTSIDE);
        check.due("item 6", x.item(6, 0), UNKNOWN);
        check.due("item -1", x.item(-1, 0), UNKNOWN);
        check.due("item unknown ahead of outside", x.item(6, 5), UNKNOWN);
        check.due("item what 5", x.item(0, 5), OUTSIDE);
        check.due("item what -1", x.item(0, -1), OUTSIDE);
    }

    private static void parts() {
        IndentReader x = Check.afterRead(TEXT);
        for (int k = 0; k < PARTS.length; k++) {
            for (int i = 0; i < PARTS[k].length; i++) {
                check.due("part(" + k + ", " + i + ")", x.part(k, i), PARTS[k][i]);
            }
            check.due("part behind of " + k, x.part(k, PARTS[k].length), INDEX);
            check.due("part -1 of " + k, x.part(k, -1), INDEX);
        }
        check.due("item 6", x.part(6, 0), UNKNOWN);
        check.due("item -1", x.part(-1, -1), UNKNOWN);
    }

    private static void itemsAs() {
        IndentReader x = Check.afterRead("do\n a of b\n      c\n hang d (e)\n let f");
        // Blocks: 0 flat, 1 deeper, 2 listed, 3 hung, 4 bracketed, 5 let.
        int[] kinds = {0, 1, 3, 2, 4, 5};
        int[] firsts = {0, 1, 2, 5, 6, 8};
        String[] taken = {"012345", "1235", "235", "3", "4", "5"};
        for (int b = 0; b < 6; b++) {
            check.due("kind of block " + b, x.block(b, 0), kinds[b]);
            for (int kind = 0; kind < 6; kind++) {
                boolean fits = taken[kind].indexOf('0' + kinds[b]) >= 0;
                check.due("itemAs(" + b + ", " + kind + ", 0)", x.itemAs(b, kind, 0), fits ? firsts[b] : CAST);
                check.due("itemAs(" + b + ", " + kind + ", 9)", x.itemAs(b, kind, 9), fits ? INDEX : CAST);
            }
            check.due("kind 6 of " + b, x.itemAs(b, 6, 0), OUTSIDE);
            check.due("kind -1 of " + b, x.itemAs(b, -1, 9), OUTSIDE);
            check.due("item -1 of " + b, x.itemAs(b, 0, -1), INDEX);
        }
        check.due("second", x.itemAs(1, 1, 1), 4);
        check.due("third", x.itemAs(1, 0, 2), 7);
        check.due("second of the list", x.itemAs(2, 2, 1), 3);
        check.due("none behind", x.itemAs(2, 3, 2), INDEX);
        check.due("block 6", x.itemAs(6, 9, 0), UNKNOWN);
        check.due("block -1", x.itemAs(-1, 0, 0), UNKNOWN);
        check.due("an empty one has none", Check.afterRead("of").itemAs(1, 3, 0), INDEX);
    }

    private static void reaches() {
        IndentReader x = Check.afterRead(TEXT);
        for (int k = 0; k < BLOCK_REACHES.length; k++) {
            for (int what = 0; what < 4; what++) {
                check.due("reach(true, " + k + ", " + what + ")", x.reach(true, k, what), BLOCK_REACHES[k][what]);
            }
        }
        for (int k = 0; k < ITEM_REACHES.length; k++) {
            for (int what = 0; what < 4; what++) {
                check.due("reach(false, " + k + ", " + what + ")", x.reach(false, k, what), ITEM_REACHES[k][what]);
            }
        }
        check.due("block 5", x.reach(true, 5, 0), UNKNOWN);
        check.due("item 5 there is", x.reach(false, 5, 0), 5);
        check.due("item 6", x.reach(false, 6, 4), UNKNOWN);
        check.due("item -1", x.reach(false, -1, 0), UNKNOWN);
        check.due("what 4", x.reach(true, 0, 4), OUTSIDE);
        check.due("what -1", x.reach(false, 0, -1), OUTSIDE);
        check.due("what 4 of an empty one", x.reach(true, 4, 4), OUTSIDE);
        IndentReader quote = Check.afterRead("a 'q\n\n  r'");
        check.due("line of a quote's end", quote.reach(true, 0, 2), 2);
        check.due("column of a quote's end", quote.reach(true, 0, 3), 3);
        IndentReader tabbed = Check.withText("a\t'\t'");
        tabbed.tab(4);
        tabbed.read();
        check.due("column behind tabs", tabbed.reach(false, 0, 3), 8);
    }

    private static void arounds() {
        IndentReader x = Check.afterRead(TEXT);
        String[] inside = {"11111111111111", "01111111100000", "00010000000000", "00000001100000", "00000000000000"};
        for (int b = 0; b < 5; b++) {
            for (int k = 0; k < 14; k++) {
                check.due("around(" + b + ", " + k + ")", x.around(b, k), inside[b].charAt(k) - '0');
            }
        }
        check.due("block 5", x.around(5, 0), UNKNOWN);
        check.due("block -1", x.around(-1, 0), UNKNOWN);
        check.due("token 14", x.around(0, 14), UNKNOWN);
        check.due("token -1", x.around(0, -1), UNKNOWN);
    }

    private static void emptyTextAndBracket() {
        IndentReader x = Check.afterRead("");
        int[] flat = {0, 0, NONE, 0, NONE, NONE, 0, NONE};
        for (int what = 0; what < 8; what++) {
            check.due("flat(" + what + ")", x.block(0, what), flat[what]);
        }
        check.due("no item", x.item(0, 0), UNKNOWN);
        check.due("no token", x.token(0, 0), UNKNOWN);
        check.due("reaches nowhere", x.reach(true, 0, 0), NONE);
        check.due("nothing to take", x.itemAs(0, 0, 0), INDEX);
        IndentReader y = Check.afterRead("( )");
        int[] bracket = {4, 0, 0, 1, NONE, NONE, 1, 0};
        int[] item = {1, NONE, NONE, 0, 0};
        for (int what = 0; what < 8; what++) {
            check.due("bracket(" + what + ")", y.block(1, what), bracket[what]);
        }
        for (int what = 0; what < 5; what++) {
            check.due("its item(" + what + ")", y.item(1, what), item[what]);
        }
        check.due("its item reaches nowhere", y.reach(false, 1, 2), NONE);
        check.due("its item has no part", y.part(1, 0), INDEX);
        check.due("the one around it ends with )", y.item(0, 2), 1);
    }

    private static void withoutAReading() {
        IndentReader[] all = {Check.withText("a"), Check.afterRead("a )"), Check.afterRead("a {")};
        for (int i = 0; i < all.length; i++) {
            IndentReader x = all[i];
            for (int what = 0; what < 3; what++) {
                check.due(i + ": count(" + what + ")", x.count(what), STATE);
            }
            check.due(i + ": lines", x.count(3), 1);
            check.due(i + ": bytes", x.count(4), i == 0 ? 1 : 3);
            check.due(i + ": count(9)", x.count(9), OUTSIDE);
            check.due(i + ": token", x.token(-1, -1), STATE);
            check.due(i + ": block", x.block(-1, -1), STATE);
            check.due(i + ": item", x.item(-1, -1), STATE);
            check.due(i + ": part", x.part(-1, -1), STATE);
            check.due(i + ": itemAs", x.itemAs(-1, -1, -1), STATE);
            check.due(i + ": reach", x.reach(true, -1, -1), STATE);
            check.due(i + ": around", x.around(-1, -1), STATE);
        }
    }
}
