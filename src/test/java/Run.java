/** A new reader and its calls: no more of them than the document speaks of, since later ones may answer anything. */
final class Run {
    static final int MOST_CALLS = 512;

    private final IndentReader reader = new IndentReader();
    private int calls;

    private IndentReader next() {
        calls++;
        if (calls > MOST_CALLS) {
            throw new IllegalStateException("the test makes more than " + MOST_CALLS + " calls on one object");
        }
        return reader;
    }

    int callsLeft() {
        return MOST_CALLS - calls;
    }

    /** Up to eight bytes as one number, the first one lowest. */
    static long word(String bytes) {
        long w = 0;
        for (int i = 0; i < bytes.length() && i < 8; i++) {
            w |= (long) (bytes.charAt(i) & 255) << (8 * i);
        }
        return w;
    }

    /** The book of most tests: all kinds of openers, two pairs, a closer, a goer. */
    static Run withBook() {
        Run x = new Run();
        x.opener(word("do"), 1);
        x.opener(word(":"), 1);
        x.opener(word("of"), 3);
        x.opener(word("let"), 5);
        x.opener(word("hang"), 2);
        x.opener(word("="), 2);
        x.closer(word("in"));
        x.pair('(', ')');
        x.pair('[', ']');
        x.goer('-');
        return x;
    }

    static Run withText(String text) {
        Run x = withBook();
        x.feedAll(text);
        return x;
    }

    static Run afterRead(String text) {
        Run x = withText(text);
        x.read();
        return x;
    }

    static Run afterRead(String text, int tab) {
        Run x = withText(text);
        x.tab(tab);
        x.read();
        return x;
    }

    /** The latest answer of feed(). */
    int feedAll(String text) {
        int size = 0;
        for (int i = 0; i < text.length(); i += 8) {
            size = feed(word(text.substring(i, Math.min(text.length(), i + 8))));
        }
        return size;
    }

    /** Another text instead of the one at hand, and read. */
    int readAnew(String text) {
        cut(0);
        feedAll(text);
        return read();
    }

    String text() {
        return textFrom(0, count(4));
    }

    String textFrom(int from, int to) {
        StringBuilder s = new StringBuilder();
        for (int i = from; i < to; i++) {
            s.append((char) byteAt(i));
        }
        return s.toString();
    }

    String page() {
        return pageFrom(0, 4000);
    }

    String pageFrom(int from, int to) {
        StringBuilder s = new StringBuilder();
        for (int i = from; i < to; i++) {
            int b = written(i);
            if (b == IndentReader.NONE) {
                break;
            }
            s.append((char) b);
        }
        return s.toString();
    }

    /** The tree of the text in the plain form, or "kind@place" of its fault. */
    String tree() {
        if (read() < 0) {
            return fault(0) + "@" + fault(1);
        }
        plain();
        return page();
    }

    int opener(long w, int kind) {
        return next().opener(w, kind);
    }

    int pair(int first, int second) {
        return next().pair(first, second);
    }

    int closer(long w) {
        return next().closer(w);
    }

    int goer(int mark) {
        return next().goer(mark);
    }

    int tab(int n) {
        return next().tab(n);
    }

    int feed(long w) {
        return next().feed(w);
    }

    int cut(int n) {
        return next().cut(n);
    }

    int shift(int line, int by) {
        return next().shift(line, by);
    }

    int keep() {
        return next().keep();
    }

    int byteAt(int i) {
        return next().byteAt(i);
    }

    int read() {
        return next().read();
    }

    int fault(int what) {
        return next().fault(what);
    }

    int count(int what) {
        return next().count(what);
    }

    int token(int k, int what) {
        return next().token(k, what);
    }

    int block(int k, int what) {
        return next().block(k, what);
    }

    int item(int k, int what) {
        return next().item(k, what);
    }

    int part(int k, int i) {
        return next().part(k, i);
    }

    int itemAs(int block, int kind, int i) {
        return next().itemAs(block, kind, i);
    }

    int reach(boolean block, int k, int what) {
        return next().reach(block, k, what);
    }

    int around(int block, int token) {
        return next().around(block, token);
    }

    int plain() {
        return next().plain();
    }

    int write(int n) {
        return next().write(n);
    }

    int written(int i) {
        return next().written(i);
    }

    int same() {
        return next().same();
    }

    int parts() {
        return next().parts();
    }

    int mend() {
        return next().mend();
    }

    int mended(int what) {
        return next().mended(what);
    }

    int marks(int n) {
        return next().marks(n);
    }

    int deepen() {
        return next().deepen();
    }

    int markAt(int i) {
        return next().markAt(i);
    }
}
