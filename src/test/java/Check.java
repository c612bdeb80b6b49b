/** Counts and prints answers that are not the ones that are due, and tells books, texts and pages in letters. */
final class Check {
    private int wrong;
    private int asked;

    void due(String what, long got, long want) {
        asked++;
        if (got != want) {
            wrong++;
            System.out.println(what + " answered " + got + ", due is " + want);
        }
    }

    void due(String what, String got, String want) {
        asked++;
        if (!got.equals(want)) {
            wrong++;
            System.out.println(what + " answered [" + got + "], due is [" + want + "]");
        }
    }

    /** Ends the test: with exit code 1, if an answer was wrong. */
    void end() {
        System.out.println(asked + " answers, " + wrong + " of them wrong");
        if (wrong != 0) {
            System.exit(1);
        }
    }

    /** Up to eight bytes as one number, the first one lowest. */
    static long word(String bytes) {
        long w = 0;
        for (int i = 0; i < bytes.length() && i < 8; i++) {
            w |= (long) (bytes.charAt(i) & 255) << (8 * i);
        }
        return w;
    }

    /** Feeds a whole text: how many bytes the reader's text has then. */
    static int feed(IndentReader x, String text) {
        int size = x.count(4);
        for (int i = 0; i < text.length(); i += 8) {
            size = x.feed(word(text.substring(i, Math.min(text.length(), i + 8))));
        }
        return size;
    }

    /** The book of most tests: all kinds of openers, two pairs, a closer, a goer. */
    static IndentReader withBook() {
        IndentReader x = new IndentReader();
        x.opener(word("do"), 1);
        x.opener(word(":"), 1);
        x.opener(word("of"), 3);
        x.opener(word("let"), 5);
        x.opener(word("hang"), 2);
        x.opener(word("="), 2);
        x.closer(word("in"));
        x.pair('(', ')');
        x.pair('[', ']');
        x.goer('-');
        return x;
    }

    static IndentReader withText(String text) {
        IndentReader x = withBook();
        feed(x, text);
        return x;
    }

    static IndentReader afterRead(String text) {
        IndentReader x = withText(text);
        x.read();
        return x;
    }

    static String textOf(IndentReader x) {
        StringBuilder s = new StringBuilder();
        for (int i = 0; i < x.count(4); i++) {
            s.append((char) x.byteAt(i));
        }
        return s.toString();
    }

    static String pageOf(IndentReader x) {
        StringBuilder s = new StringBuilder();
        for (int i = 0; i < 4000 && x.written(i) != IndentReader.NONE; i++) {
            s.append((char) x.written(i));
        }
        return s.toString();
    }

    /** The tree of a text in the plain form, or "kind@place" of its fault. */
    static String treeOf(String text) {
        IndentReader x = afterRead(text);
        if (x.fault(0) != 0) {
            return x.fault(0) + "@" + x.fault(1);
        }
        x.plain();
        return pageOf(x);
    }
}
