import java.util.Arrays;

/**
 * Reads texts whose blocks are shown by how far their lines stand in.
 * The numbered promises of the document say what each call answers.
 */
public final class IndentReader {
    public static final int UNKNOWN = -1, OUTSIDE = -2, STATE = -3, FULL = -4, NONE = -9;

    private static final int CAST = -11, INDEX = -12, SIZE = -13;

    private static final int FLAT = 0, DEEPER = 1, HUNG = 2, LISTED = 3, BRACKETED = 4, LET = 5;

    private static final int WORD = 0, NUMBER = 1, MARK = 2, QUOTE = 3;

    private static final int NO_FAULT = 0, BYTE = 1, TAB = 2, WANTED = 3, IN = 4, CLOSE = 5, OPEN = 6;

    /** What the book says of a token; of an opener it is its kind, of marks of a pair its number comes on top. */
    private static final int PLAIN = 0, CLOSER = 6, GOER = 7, FIRST = 10, SECOND = 20;

    private static final int MOST_BYTES = 600;
    private static final int MOST_OPENERS = 8, MOST_PAIRS = 4, MOST_CLOSERS = 4, MOST_GOERS = 4;
    private static final int MOST_NAMES = MOST_OPENERS + 2 * MOST_PAIRS + MOST_CLOSERS + MOST_GOERS;
    private static final int MOST_LETTERS = 8, MOST_DIGITS = 9;
    private static final int MOST_SHIFT = 40, MOST_TAB = 8, MOST_STEP = 8;
    private static final int MOST_WRITTEN = 4000;
    private static final int MOST_MENDS = 30, MOST_MEND_SHIFT = 4;
    private static final int MOST_MARKS = 200;

    /** A token has a byte at least, and begins a block of its own at most, and two items at most. */
    private static final int MOST_TOKENS = MOST_BYTES;
    private static final int MOST_BLOCKS = MOST_TOKENS + 1;
    private static final int MOST_ITEMS = 2 * MOST_TOKENS;
    private static final int MOST_PARTS = MOST_TOKENS + MOST_BLOCKS;

    /** A part that is a block is told by this less the block's number. */
    private static final int BLOCK_PART = -100;
    private static final int FAULT_ANSWER = -100;

    private static final int TAB_BYTE = 9, LINE_END = 10, BLANK = 32;
    private static final int QUOTE_BYTE = '\'', NOTE_BYTE = '#';
    private static final String MARK_BYTES = "!\"$%&()*+,-./:;<=>?@[]^_|";

    private static final int UNREAD = 0, GOOD = 1, FAULTY = 2;

    private final Book book = new Book();
    private final Text text = new Text();
    private final Text kept = new Text();
    private final Reading now = new Reading();
    private final Reading other = new Reading();
    private final Scribe scribe = new Scribe();
    private Page page = new Page();
    private Page draft = new Page();
    private int state = UNREAD;
    private int mendsDone;
    private int mendedLine = NONE;
    private int mendedBy = NONE;
    private final int[] row = new int[MOST_MARKS];
    private int rowSize;

    public IndentReader() {
    }

    // ---- the book

    public int opener(long w, int kind) {
        return unreadUnlessRefused(book.tellOpener(w, kind));
    }

    public int pair(int first, int second) {
        return unreadUnlessRefused(book.tellPair(first, second));
    }

    public int closer(long w) {
        return unreadUnlessRefused(book.tellCloser(w));
    }

    public int goer(int mark) {
        return unreadUnlessRefused(book.tellGoer(mark));
    }

    public int tab(int n) {
        return unreadUnlessRefused(book.tellTab(n));
    }

    // ---- the text

    public int feed(long w) {
        return unreadUnlessRefused(text.append(w));
    }

    public int cut(int n) {
        return unreadUnlessRefused(text.keepFirst(n));
    }

    public int shift(int line, int by) {
        return unreadUnlessRefused(text.slide(line, by));
    }

    public int keep() {
        kept.copyFrom(text);
        return kept.size;
    }

    public int byteAt(int i) {
        return i < 0 || i >= text.size ? INDEX : text.at(i);
    }

    // ---- reading

    public int read() {
        now.make(text, book);
        if (now.faultKind != NO_FAULT) {
            state = FAULTY;
            return FAULT_ANSWER - now.faultPlace;
        }
        state = GOOD;
        return now.tokens.total;
    }

    public int fault(int what) {
        switch (what) {
            case 0: return now.faultKind;
            case 1: return now.faultPlace;
            case 2: return now.faultLine;
            case 3: return now.faultColumn;
            default: return OUTSIDE;
        }
    }

    public int count(int what) {
        if (what >= 0 && what <= 2 && state != GOOD) {
            return STATE;
        }
        switch (what) {
            case 0: return now.tokens.total;
            case 1: return now.tree.blocks.total;
            case 2: return now.tree.items.total;
            case 3: return text.lineCount();
            case 4: return text.size;
            default: return OUTSIDE;
        }
    }

    public int token(int k, int what) {
        if (state != GOOD) {
            return STATE;
        }
        if (k < 0 || k >= now.tokens.total) {
            return UNKNOWN;
        }
        switch (what) {
            case 0: return now.tokens.sort[k];
            case 1: return now.tokens.place[k];
            case 2: return now.tokens.length[k];
            case 3: return now.tokens.line[k];
            case 4: return now.tokens.column[k];
            case 5: return now.tree.head[k] ? 1 : 0;
            case 6: return now.tree.itemOf[k];
            case 7: return now.tree.blockOf(k);
            default: return OUTSIDE;
        }
    }

    public int block(int k, int what) {
        Blocks blocks = now.tree.blocks;
        if (state != GOOD) {
            return STATE;
        }
        if (!blocks.has(k)) {
            return UNKNOWN;
        }
        switch (what) {
            case 0: return blocks.kind[k];
            case 1: return blocks.column[k];
            case 2: return blocks.holder[k];
            case 3: return blocks.itemCount[k];
            case 4: return blocks.first[k];
            case 5: return blocks.last[k];
            case 6: return blocks.depth[k];
            case 7: return blocks.beginner[k];
            default: return OUTSIDE;
        }
    }

    public int item(int k, int what) {
        Items items = now.tree.items;
        if (state != GOOD) {
            return STATE;
        }
        if (!items.has(k)) {
            return UNKNOWN;
        }
        switch (what) {
            case 0: return items.owner[k];
            case 1: return items.first[k];
            case 2: return items.last[k];
            case 3: return items.partCount[k];
            case 4: return items.rank[k];
            default: return OUTSIDE;
        }
    }

    public int part(int k, int i) {
        Items items = now.tree.items;
        if (state != GOOD) {
            return STATE;
        }
        if (!items.has(k)) {
            return UNKNOWN;
        }
        if (i < 0 || i >= items.partCount[k]) {
            return INDEX;
        }
        return items.partOf(k, i);
    }

    public int itemAs(int block, int kind, int i) {
        Blocks blocks = now.tree.blocks;
        if (state != GOOD) {
            return STATE;
        }
        if (!blocks.has(block)) {
            return UNKNOWN;
        }
        if (kind < FLAT || kind > LET) {
            return OUTSIDE;
        }
        if (!passesAs(blocks.kind[block], kind)) {
            return CAST;
        }
        if (i < 0 || i >= blocks.itemCount[block]) {
            return INDEX;
        }
        return now.tree.items.find(block, i);
    }

    public int reach(boolean block, int k, int what) {
        Blocks blocks = now.tree.blocks;
        Items items = now.tree.items;
        if (state != GOOD) {
            return STATE;
        }
        if (block ? !blocks.has(k) : !items.has(k)) {
            return UNKNOWN;
        }
        if (what < 0 || what > 3) {
            return OUTSIDE;
        }
        if (what < 2) {
            return reachFirst(block ? blocks.first[k] : items.first[k], what == 0);
        }
        return reachLast(block ? blocks.last[k] : items.last[k], what == 2);
    }

    public int around(int block, int token) {
        if (state != GOOD) {
            return STATE;
        }
        if (!now.tree.blocks.has(block) || token < 0 || token >= now.tokens.total) {
            return UNKNOWN;
        }
        int inner = now.tree.blockOf(token);
        for (int step = 0; step < MOST_BLOCKS && inner != NONE; step++) {
            if (inner == block) {
                return 1;
            }
            inner = now.tree.blockAround(inner);
        }
        return 0;
    }

    // ---- writing

    public int plain() {
        if (state != GOOD) {
            return STATE;
        }
        scribe.drawPlainly(now, text, draft);
        return showDraft();
    }

    public int write(int n) {
        if (n < 1 || n > MOST_STEP) {
            return OUTSIDE;
        }
        if (state != GOOD || !scribe.drawAnew(now, text, draft, n)) {
            return STATE;
        }
        return showDraft();
    }

    public int written(int i) {
        return page.at(i);
    }

    // ---- texts against one another

    public int same() {
        if (state != GOOD) {
            return STATE;
        }
        other.make(kept, book);
        if (other.faultKind != NO_FAULT) {
            return STATE;
        }
        return sameBytes() && now.tree.hasShapeOf(other.tree, now.tokens.total) ? 1 : 0;
    }

    public int parts() {
        if (state != GOOD) {
            return STATE;
        }
        other.make(kept, book);
        if (other.faultKind != NO_FAULT) {
            return STATE;
        }
        int shared = Math.min(now.tokens.total, other.tokens.total);
        for (int k = 0; k < shared; k++) {
            if (!sameToken(k)
                    || now.tree.itemOf[k] != other.tree.itemOf[k]
                    || now.tree.blockOf(k) != other.tree.blockOf(k)) {
                return k;
            }
        }
        return now.tokens.total == other.tokens.total ? NONE : shared;
    }

    public int mend() {
        if (state != FAULTY) {
            return STATE;
        }
        if (mendsDone >= MOST_MENDS) {
            return FULL;
        }
        mendedLine = NONE;
        mendedBy = NONE;
        if (!findMend()) {
            return 0;
        }
        text.slide(mendedLine, mendedBy);
        mendsDone++;
        state = UNREAD;
        return 1;
    }

    public int mended(int what) {
        switch (what) {
            case 0: return mendedLine;
            case 1: return mendedBy;
            default: return OUTSIDE;
        }
    }

    public int marks(int n) {
        if (n < 0) {
            return SIZE;
        }
        if (n > MOST_MARKS) {
            return OUTSIDE;
        }
        Arrays.fill(row, 0);
        rowSize = n;
        return n;
    }

    public int deepen() {
        if (state != GOOD) {
            return STATE;
        }
        int came = Math.min(rowSize, now.tokens.total);
        for (int k = 0; k < came; k++) {
            row[k] = now.tree.depthOf(k);
        }
        return came < now.tokens.total ? INDEX : came;
    }

    public int markAt(int i) {
        return i < 0 || i >= rowSize ? INDEX : row[i];
    }

    // ---- what the calls lean on

    private int unreadUnlessRefused(int answer) {
        if (answer >= 0) {
            state = UNREAD;
        }
        return answer;
    }

    private static boolean passesAs(int kind, int wanted) {
        switch (wanted) {
            case FLAT: return true;
            case DEEPER: return isStepped(kind);
            case HUNG: return isStepped(kind) && kind != DEEPER;
            default: return kind == wanted;
        }
    }

    private int reachFirst(int k, boolean line) {
        if (k < 0 || k >= now.tokens.total) {
            return NONE;
        }
        return line ? now.tokens.line[k] : now.tokens.column[k];
    }

    private int reachLast(int k, boolean line) {
        if (k < 0 || k >= now.tokens.total) {
            return NONE;
        }
        int place = now.tokens.place[k] + now.tokens.length[k] - 1;
        return line ? text.lineAt(place) : text.columnAt(place, book.tab);
    }

    /** What is refused may not touch what was written before: so all is drawn on a page that isn't shown. */
    private int showDraft() {
        if (draft.over) {
            return FULL;
        }
        Page shown = page;
        page = draft;
        draft = shown;
        return page.size;
    }

    private boolean sameBytes() {
        if (now.tokens.total != other.tokens.total) {
            return false;
        }
        for (int k = 0; k < now.tokens.total; k++) {
            if (!sameToken(k)) {
                return false;
            }
        }
        return true;
    }

    private boolean sameToken(int k) {
        if (k < 0 || k >= now.tokens.total || k >= other.tokens.total) {
            return false;
        }
        int length = now.tokens.length[k];
        if (other.tokens.length[k] != length) {
            return false;
        }
        int here = now.tokens.place[k];
        int there = other.tokens.place[k];
        for (int i = 0; i < length; i++) {
            if (text.at(here + i) != kept.at(there + i)) {
                return false;
            }
        }
        return true;
    }

    private boolean findMend() {
        // Blanks at the beginning of a line change columns alone: other bytes and marks of pairs stay at fault.
        if (now.faultKind != WANTED && now.faultKind != IN) {
            return false;
        }
        // Lines behind the fault come too late to undo it.
        int lines = Math.min(text.lineCount(), now.faultLine + 1);
        for (int far = 1; far <= MOST_MEND_SHIFT; far++) {
            for (int line = 0; line < lines; line++) {
                // Without a token on its line a shift leaves all columns, and so the fault.
                for (int by = -far; by <= far && now.tokens.anyOn(line); by += 2 * far) {
                    if (text.refusalOfSlide(line, by) != 0) {
                        continue;
                    }
                    now.tokens.slideColumns(text, line, by, book.tab);
                    other.tree.grow(now.tokens, text.size);
                    now.tokens.slideColumns(text, line, 0, book.tab);
                    if (other.tree.faultKind == NO_FAULT) {
                        mendedLine = line;
                        mendedBy = by;
                        return true;
                    }
                }
            }
        }
        return false;
    }

    private static boolean isLetter(int b) {
        return b >= 'a' && b <= 'z';
    }

    private static boolean isDigit(int b) {
        return b >= '0' && b <= '9';
    }

    private static boolean isMark(long b) {
        return b > 0 && b < 256 && MARK_BYTES.indexOf((char) b) >= 0;
    }

    private static int byteOf(long w, int i) {
        return (int) ((w >>> (8 * i)) & 255);
    }

    /** How many bytes stand ahead of the first 0. */
    private static int bytesIn(long w) {
        for (int i = 0; i < 8; i++) {
            if (byteOf(w, i) == 0) {
                return i;
            }
        }
        return 8;
    }

    private static long nameOf(long w) {
        int bytes = bytesIn(w);
        return bytes == 8 ? w : w & ((1L << (8 * bytes)) - 1);
    }

    private static boolean isWord(long name) {
        int bytes = bytesIn(name);
        for (int i = 0; i < bytes; i++) {
            if (!isLetter(byteOf(name, i))) {
                return false;
            }
        }
        return bytes > 0;
    }

    /** Kinds of blocks that an opener opens. */
    private static boolean isStepped(int kind) {
        return kind == DEEPER || kind == HUNG || kind == LISTED || kind == LET;
    }

    private static boolean isFirst(int role) {
        return role >= FIRST && role < FIRST + MOST_PAIRS;
    }

    private static boolean isSecond(int role) {
        return role >= SECOND && role < SECOND + MOST_PAIRS;
    }

    private static int columnBehind(int column, int b, int tab) {
        return b == TAB_BYTE && tab > 0 ? (column / tab + 1) * tab : column + 1;
    }

    /** Words and marks that are told, each with its role. */
    private static final class Book {
        private final long[] names = new long[MOST_NAMES];
        private final int[] roles = new int[MOST_NAMES];
        private int told;
        private int openers;
        private int pairs;
        private int closers;
        private int goers;
        int tab;

        int roleOf(long name) {
            for (int i = 0; i < told; i++) {
                if (names[i] == name) {
                    return roles[i];
                }
            }
            return PLAIN;
        }

        int tellOpener(long w, int kind) {
            long name = nameOf(w);
            if ((!isWord(name) && !isMark(name)) || !isStepped(kind)) {
                return OUTSIDE;
            }
            if (roleOf(name) != PLAIN) {
                return STATE;
            }
            if (openers >= MOST_OPENERS) {
                return FULL;
            }
            enter(name, kind);
            openers++;
            return openers;
        }

        int tellPair(int first, int second) {
            if (!isMark(first) || !isMark(second)) {
                return OUTSIDE;
            }
            if (roleOf(first) != PLAIN || roleOf(second) != PLAIN || first == second) {
                return STATE;
            }
            if (pairs >= MOST_PAIRS) {
                return FULL;
            }
            enter(first, FIRST + pairs);
            enter(second, SECOND + pairs);
            pairs++;
            return pairs;
        }

        int tellCloser(long w) {
            long name = nameOf(w);
            if (!isWord(name)) {
                return OUTSIDE;
            }
            if (roleOf(name) != PLAIN) {
                return STATE;
            }
            if (closers >= MOST_CLOSERS) {
                return FULL;
            }
            enter(name, CLOSER);
            closers++;
            return closers;
        }

        int tellGoer(int mark) {
            if (!isMark(mark)) {
                return OUTSIDE;
            }
            if (roleOf(mark) != PLAIN) {
                return STATE;
            }
            if (goers >= MOST_GOERS) {
                return FULL;
            }
            enter(mark, GOER);
            goers++;
            return goers;
        }

        int tellTab(int n) {
            if (n < 0 || n > MOST_TAB) {
                return OUTSIDE;
            }
            int was = tab;
            tab = n;
            return was;
        }

        private void enter(long name, int role) {
            if (told >= names.length) {
                return;
            }
            names[told] = name;
            roles[told] = role;
            told++;
        }
    }

    /** The bytes of a text, with its lines and columns. */
    private static final class Text {
        private final byte[] bytes = new byte[MOST_BYTES];
        int size;

        int at(int i) {
            return i >= 0 && i < size ? bytes[i] & 255 : NONE;
        }

        int append(long w) {
            int more = bytesIn(w);
            if (size + more > MOST_BYTES) {
                return FULL;
            }
            for (int i = 0; i < more; i++) {
                bytes[size + i] = (byte) byteOf(w, i);
            }
            size += more;
            return size;
        }

        int keepFirst(int n) {
            if (n < 0 || n > size) {
                return OUTSIDE;
            }
            int gone = size - n;
            size = n;
            return gone;
        }

        void copyFrom(Text source) {
            System.arraycopy(source.bytes, 0, bytes, 0, source.size);
            size = source.size;
        }

        /** Behind a line's end another one begins, but not at the end of the text. */
        int lineCount() {
            return size == 0 ? 0 : 1 + lineAt(size - 1);
        }

        int startOf(int line) {
            if (line == 0 && size > 0) {
                return 0;
            }
            int ahead = 0;
            for (int i = 0; i < size - 1; i++) {
                if (bytes[i] == LINE_END) {
                    ahead++;
                    if (ahead == line) {
                        return i + 1;
                    }
                }
            }
            return NONE;
        }

        int lineAt(int place) {
            int line = 0;
            for (int i = 0; i < place; i++) {
                if (at(i) == LINE_END) {
                    line++;
                }
            }
            return line;
        }

        int columnAt(int place, int tab) {
            int start = 0;
            for (int i = 0; i < place; i++) {
                if (at(i) == LINE_END) {
                    start = i + 1;
                }
            }
            return columnFrom(start, 0, place, tab);
        }

        /** The column of a place, if one ahead of it on its line stood at the column told. */
        int columnFrom(int from, int column, int place, int tab) {
            int reached = column;
            for (int i = from; i < place; i++) {
                reached = columnBehind(reached, at(i), tab);
            }
            return reached;
        }

        int firstPlaceOf(int b) {
            for (int i = 0; i < size; i++) {
                if (at(i) == b) {
                    return i;
                }
            }
            return NONE;
        }

        int slide(int line, int by) {
            int refusal = refusalOfSlide(line, by);
            if (refusal != 0) {
                return refusal;
            }
            int start = startOf(line);
            if (by > 0) {
                System.arraycopy(bytes, start, bytes, start + by, size - start);
                Arrays.fill(bytes, start, start + by, (byte) BLANK);
            } else {
                System.arraycopy(bytes, start - by, bytes, start, size - start + by);
            }
            size += by;
            return 1;
        }

        /** 0, if the line may be shifted so far. */
        int refusalOfSlide(int line, int by) {
            int start = startOf(line);
            if (start == NONE) {
                return UNKNOWN;
            }
            if (by < -MOST_SHIFT || by > MOST_SHIFT) {
                return OUTSIDE;
            }
            for (int i = 0; i < -by; i++) {
                if (at(start + i) != BLANK) {
                    return STATE;
                }
            }
            return size + by > MOST_BYTES ? FULL : 0;
        }
    }

    /** The tokens of a text, in order, or its first byte that belongs to none. */
    private static final class Tokens {
        final int[] sort = new int[MOST_TOKENS];
        final int[] place = new int[MOST_TOKENS];
        final int[] length = new int[MOST_TOKENS];
        final int[] line = new int[MOST_TOKENS];
        final int[] column = new int[MOST_TOKENS];
        final int[] role = new int[MOST_TOKENS];
        /** Whether its line begins with it. */
        final boolean[] leads = new boolean[MOST_TOKENS];
        int total;
        int faultKind;
        int faultPlace;
        private int at;
        private int atLine;
        private int atColumn;
        private boolean fresh;

        void scan(Text text, Book book) {
            total = 0;
            faultKind = NO_FAULT;
            faultPlace = NONE;
            at = 0;
            atLine = 0;
            atColumn = 0;
            fresh = true;
            for (int step = 0; step < MOST_BYTES && at < text.size && faultKind == NO_FAULT; step++) {
                scanNext(text, book);
            }
            int tabPlace = book.tab == 0 ? text.firstPlaceOf(TAB_BYTE) : NONE;
            if (tabPlace != NONE && (faultKind == NO_FAULT || tabPlace < faultPlace)) {
                faultKind = TAB;
                faultPlace = tabPlace;
            }
        }

        private void scanNext(Text text, Book book) {
            int b = text.at(at);
            if (b == BLANK || b == TAB_BYTE || b == LINE_END) {
                fresh = fresh || b == LINE_END;
                pass(text, 1, book.tab);
            } else if (b == NOTE_BYTE) {
                pass(text, noteLength(text), book.tab);
            } else {
                scanToken(text, book);
            }
        }

        private void scanToken(Text text, Book book) {
            int kind = sortOf(text.at(at));
            int bytes = tokenLength(text, kind);
            if (bytes <= 0 || total >= MOST_TOKENS) {
                faultKind = BYTE;
                faultPlace = at;
                return;
            }
            sort[total] = kind;
            place[total] = at;
            length[total] = bytes;
            line[total] = atLine;
            column[total] = atColumn;
            role[total] = kind == WORD || kind == MARK ? book.roleOf(packed(text, bytes)) : PLAIN;
            leads[total] = fresh;
            total++;
            fresh = false;
            pass(text, bytes, book.tab);
        }

        private static int sortOf(int b) {
            if (isLetter(b)) {
                return WORD;
            }
            if (isDigit(b)) {
                return NUMBER;
            }
            if (isMark(b)) {
                return MARK;
            }
            return b == QUOTE_BYTE ? QUOTE : NONE;
        }

        /** 0, if what begins here is no token. */
        private int tokenLength(Text text, int kind) {
            switch (kind) {
                case WORD: return rowLength(text, 'a', 'z', MOST_LETTERS);
                case NUMBER: return rowLength(text, '0', '9', MOST_DIGITS);
                case MARK: return 1;
                case QUOTE: return quoteLength(text);
                default: return 0;
            }
        }

        private int rowLength(Text text, int least, int greatest, int most) {
            for (int i = 0; i <= most; i++) {
                int b = text.at(at + i);
                if (b < least || b > greatest) {
                    return i;
                }
            }
            return 0;
        }

        private int quoteLength(Text text) {
            for (int i = at + 1; i < text.size; i++) {
                if (text.at(i) == QUOTE_BYTE) {
                    return i + 1 - at;
                }
            }
            return 0;
        }

        private int noteLength(Text text) {
            for (int i = at; i < text.size; i++) {
                if (text.at(i) == LINE_END) {
                    return i - at;
                }
            }
            return text.size - at;
        }

        private long packed(Text text, int bytes) {
            long name = 0;
            for (int i = 0; i < bytes && i < 8; i++) {
                name |= (long) text.at(at + i) << (8 * i);
            }
            return name;
        }

        private void pass(Text text, int bytes, int tab) {
            for (int i = 0; i < bytes; i++) {
                int b = text.at(at);
                if (b == LINE_END) {
                    atLine++;
                    atColumn = 0;
                } else {
                    atColumn = columnBehind(atColumn, b, tab);
                }
                at++;
            }
        }

        boolean anyOn(int wanted) {
            for (int k = 0; k < total; k++) {
                if (line[k] == wanted) {
                    return true;
                }
            }
            return false;
        }

        /** Columns as they would be, if the line were shifted; by 0 they are as they were. */
        void slideColumns(Text text, int wanted, int by, int tab) {
            int from = text.startOf(wanted) + Math.max(0, -by);
            int reached = Math.max(0, by);
            for (int k = 0; k < total; k++) {
                if (line[k] == wanted) {
                    reached = text.columnFrom(from, reached, place[k], tab);
                    from = place[k];
                    column[k] = reached;
                }
            }
        }
    }

    /** The blocks of a tree, by number. */
    private static final class Blocks {
        final int[] kind = new int[MOST_BLOCKS];
        final int[] column = new int[MOST_BLOCKS];
        final int[] holder = new int[MOST_BLOCKS];
        final int[] itemCount = new int[MOST_BLOCKS];
        final int[] first = new int[MOST_BLOCKS];
        final int[] last = new int[MOST_BLOCKS];
        final int[] depth = new int[MOST_BLOCKS];
        /** The opener or first mark, by token. */
        final int[] beginner = new int[MOST_BLOCKS];
        final int[] latestItem = new int[MOST_BLOCKS];
        int total;

        boolean has(int b) {
            return b >= 0 && b < total;
        }

        int add(int ofKind, int atColumn, int inItem, int blocksAround, int token) {
            if (total >= kind.length) {
                return NONE;
            }
            kind[total] = ofKind;
            column[total] = atColumn;
            holder[total] = inItem;
            itemCount[total] = 0;
            first[total] = NONE;
            last[total] = NONE;
            depth[total] = blocksAround;
            beginner[total] = token;
            latestItem[total] = NONE;
            total++;
            return total - 1;
        }
    }

    /** The items of a tree, by number, and the parts of all of them in the order in which they came. */
    private static final class Items {
        final int[] owner = new int[MOST_ITEMS];
        final int[] rank = new int[MOST_ITEMS];
        final int[] first = new int[MOST_ITEMS];
        final int[] last = new int[MOST_ITEMS];
        final int[] partCount = new int[MOST_ITEMS];
        int total;
        final int[] partItem = new int[MOST_PARTS];
        final int[] partValue = new int[MOST_PARTS];
        int partTotal;

        boolean has(int item) {
            return item >= 0 && item < total;
        }

        int add(int block, int place) {
            if (total >= owner.length) {
                return NONE;
            }
            owner[total] = block;
            rank[total] = place;
            first[total] = NONE;
            last[total] = NONE;
            partCount[total] = 0;
            total++;
            return total - 1;
        }

        void hang(int item, int value) {
            if (!has(item) || partTotal >= partItem.length) {
                return;
            }
            partItem[partTotal] = item;
            partValue[partTotal] = value;
            partTotal++;
            partCount[item]++;
            if (value >= 0) {
                last[item] = value;
                first[item] = first[item] == NONE ? value : first[item];
            }
        }

        int partOf(int item, int place) {
            int ahead = 0;
            for (int p = 0; p < partTotal; p++) {
                if (partItem[p] == item) {
                    if (ahead == place) {
                        return partValue[p];
                    }
                    ahead++;
                }
            }
            return INDEX;
        }

        int find(int block, int place) {
            for (int item = 0; item < total; item++) {
                if (owner[item] == block && rank[item] == place) {
                    return item;
                }
            }
            return INDEX;
        }
    }

    /** Blocks and items that grow as tokens are taken one by one, up to the first fault. */
    private static final class Tree {
        final Blocks blocks = new Blocks();
        final Items items = new Items();
        final int[] itemOf = new int[MOST_TOKENS];
        final boolean[] head = new boolean[MOST_TOKENS];
        int faultKind;
        int faultPlace;
        /** Blocks that are open, the flat one lowest. */
        private final int[] pile = new int[MOST_BLOCKS];
        private int height;
        /** The opener whose block is to begin with the next token. */
        private int pending;
        private int headColumn;

        void grow(Tokens tokens, int end) {
            faultKind = NO_FAULT;
            faultPlace = NONE;
            blocks.total = 0;
            items.total = 0;
            items.partTotal = 0;
            height = 0;
            pending = NONE;
            headColumn = NONE;
            pileUp(blocks.add(FLAT, 0, NONE, 0, NONE));
            for (int k = 0; k < tokens.total && faultKind == NO_FAULT; k++) {
                take(tokens, k);
            }
            if (faultKind == NO_FAULT) {
                finish(tokens, end);
            }
            if (faultKind == NO_FAULT) {
                spreadEnds();
            }
        }

        int blockOf(int k) {
            int item = k >= 0 && k < itemOf.length ? itemOf[k] : NONE;
            return items.has(item) ? items.owner[item] : NONE;
        }

        int blockAround(int b) {
            int item = blocks.has(b) ? blocks.holder[b] : NONE;
            return items.has(item) ? items.owner[item] : NONE;
        }

        int depthOf(int k) {
            int b = blockOf(k);
            return blocks.has(b) ? blocks.depth[b] + 1 : 0;
        }

        boolean hasShapeOf(Tree that, int tokens) {
            if (blocks.total != that.blocks.total || items.total != that.items.total) {
                return false;
            }
            for (int k = 0; k < tokens && k < itemOf.length; k++) {
                if (itemOf[k] != that.itemOf[k]) {
                    return false;
                }
            }
            for (int i = 0; i < items.total; i++) {
                if (items.owner[i] != that.items.owner[i]) {
                    return false;
                }
            }
            for (int b = 0; b < blocks.total; b++) {
                if (blocks.kind[b] != that.blocks.kind[b] || blocks.holder[b] != that.blocks.holder[b]) {
                    return false;
                }
            }
            return true;
        }

        private void take(Tokens tokens, int k) {
            boolean bracketed = blocks.kind[top()] == BRACKETED;
            head[k] = tokens.leads[k] && !bracketed && (k == 0 || tokens.role[k - 1] != GOER);
            int item = pending == NONE ? NONE : itemBehindOpener(tokens, k);
            if (item == NONE && faultKind == NO_FAULT) {
                item = itemElsewhere(tokens, k);
            }
            if (faultKind != NO_FAULT) {
                return;
            }
            items.hang(item, k);
            itemOf[k] = item;
            if (head[k]) {
                headColumn = tokens.column[k];
            }
            pending = isStepped(tokens.role[k]) && !bracketed ? k : NONE;
            if (isFirst(tokens.role[k])) {
                int b = beginBlock(BRACKETED, blocks.column[top()], item, k);
                pileUp(b);
                beginItem(b);
            }
        }

        /** By (a); NONE, if there is a fault, or if the block is an empty one, so that (b) to (e) come next. */
        private int itemBehindOpener(Tokens tokens, int k) {
            int column = tokens.column[k];
            int kind = tokens.role[pending];
            int below = top();
            boolean fits = column > blocks.column[below]
                    && tokens.role[k] != CLOSER && !isSecond(tokens.role[k]);
            if (kind == DEEPER && !(fits && head[k] && column > headColumn)) {
                fail(WANTED, tokens.place[k]);
                return NONE;
            }
            int b = beginBlock(kind, fits ? column : NONE, blocks.latestItem[below], pending);
            if (!fits) {
                return NONE;
            }
            pileUp(b);
            return beginItem(b);
        }

        /** By (b) to (e). */
        private int itemElsewhere(Tokens tokens, int k) {
            int role = tokens.role[k];
            if (role == CLOSER) {
                int level = levelOfLet();
                if (level > 0) {
                    height = level;
                    return blocks.latestItem[top()];
                }
            }
            if (isSecond(role)) {
                return itemBehindBracket(tokens, k);
            }
            return head[k] ? itemOfHead(tokens, k) : blocks.latestItem[top()];
        }

        private int itemBehindBracket(Tokens tokens, int k) {
            int b = top();
            int first = blocks.kind[b] == BRACKETED ? blocks.beginner[b] : NONE;
            if (first < 0 || first >= k || tokens.role[first] - FIRST != tokens.role[k] - SECOND) {
                fail(CLOSE, tokens.place[k]);
                return NONE;
            }
            height--;
            return blocks.holder[b];
        }

        private int itemOfHead(Tokens tokens, int k) {
            int column = tokens.column[k];
            while (height > 1 && blocks.column[top()] > column) {
                height--;
            }
            int b = top();
            if (blocks.column[b] == column) {
                return beginItem(b);
            }
            if (blocks.kind[b] == LISTED || blocks.kind[b] == LET) {
                return blocks.latestItem[b];
            }
            fail(IN, tokens.place[k]);
            return NONE;
        }

        private void finish(Tokens tokens, int end) {
            if (pending >= 0 && pending < tokens.total) {
                int kind = tokens.role[pending];
                if (kind == DEEPER) {
                    fail(WANTED, end);
                    return;
                }
                beginBlock(kind, NONE, blocks.latestItem[top()], pending);
            }
            for (int level = 1; level < height; level++) {
                int b = pile[level];
                int first = blocks.beginner[b];
                if (blocks.kind[b] == BRACKETED && first >= 0 && first < tokens.total) {
                    fail(OPEN, tokens.place[first]);
                    return;
                }
            }
        }

        /** Inner items have greater numbers than the one around them, so that from the last one on each is ready in time. */
        private void spreadEnds() {
            for (int i = items.total - 1; i >= 0; i--) {
                int b = items.owner[i];
                if (items.first[i] == NONE || !blocks.has(b)) {
                    continue;
                }
                blocks.first[b] = items.first[i];
                blocks.last[b] = Math.max(blocks.last[b], items.last[i]);
                int holder = blocks.holder[b];
                if (items.has(holder)) {
                    items.last[holder] = Math.max(items.last[holder], items.last[i]);
                }
            }
        }

        /** Where in the pile the topmost let is that no bracketed block is above; NONE, if there is none. */
        private int levelOfLet() {
            for (int level = height - 1; level > 0; level--) {
                int kind = blocks.kind[pile[level]];
                if (kind == LET) {
                    return level;
                }
                if (kind == BRACKETED) {
                    return NONE;
                }
            }
            return NONE;
        }

        private int top() {
            return height > 0 && height <= pile.length ? pile[height - 1] : 0;
        }

        private void pileUp(int b) {
            if (blocks.has(b) && height < pile.length) {
                pile[height] = b;
                height++;
            }
        }

        private int beginBlock(int kind, int column, int holder, int token) {
            int b = blocks.add(kind, column, holder, height, token);
            if (b != NONE) {
                items.hang(holder, BLOCK_PART - b);
            }
            return b;
        }

        private int beginItem(int b) {
            if (!blocks.has(b)) {
                return NONE;
            }
            int item = items.add(b, blocks.itemCount[b]);
            blocks.itemCount[b]++;
            blocks.latestItem[b] = item;
            return item;
        }

        private void fail(int kind, int place) {
            faultKind = kind;
            faultPlace = place;
        }
    }

    /** What one text was read to: tokens and tree, or a fault. */
    private static final class Reading {
        final Tokens tokens = new Tokens();
        final Tree tree = new Tree();
        int faultKind = NO_FAULT;
        int faultPlace = NONE;
        /** Kept as they were when it was read: the text may be another one by the time they are asked for. */
        int faultLine = NONE;
        int faultColumn = NONE;

        void make(Text text, Book book) {
            tokens.scan(text, book);
            faultKind = tokens.faultKind;
            faultPlace = tokens.faultPlace;
            if (faultKind == NO_FAULT) {
                tree.grow(tokens, text.size);
                faultKind = tree.faultKind;
                faultPlace = tree.faultPlace;
            }
            faultLine = faultKind == NO_FAULT ? NONE : text.lineAt(faultPlace);
            faultColumn = faultKind == NO_FAULT ? NONE : text.columnAt(faultPlace, book.tab);
        }
    }

    /** A page of bytes that knows when more came than it can hold. */
    private static final class Page {
        private final byte[] bytes = new byte[MOST_WRITTEN];
        int size;
        boolean over;

        void clear() {
            size = 0;
            over = false;
        }

        int at(int i) {
            return i >= 0 && i < size ? bytes[i] & 255 : NONE;
        }

        void put(int b) {
            if (size >= bytes.length) {
                over = true;
                return;
            }
            bytes[size] = (byte) b;
            size++;
        }

        void putBlanks(int n) {
            for (int i = 0; i < n && !over; i++) {
                put(BLANK);
            }
        }

        void putApart() {
            if (size > 0) {
                put(BLANK);
            }
        }

        void putToken(Text text, int place, int length) {
            for (int i = 0; i < length; i++) {
                put(text.at(place + i));
            }
        }
    }

    /** Draws a tree on a page, part by part: their order is that of the text. */
    private static final class Scribe {
        /** What the line has that was begun last ahead of each block. */
        private final int[] ground = new int[MOST_BLOCKS];
        /** What the line has that was begun with each item. */
        private final int[] margin = new int[MOST_ITEMS];
        private int indent;
        private int current;

        void drawPlainly(Reading reading, Text text, Page page) {
            Tree tree = reading.tree;
            Items items = tree.items;
            page.clear();
            current = 0;
            for (int p = 0; p < items.partTotal; p++) {
                int item = items.partItem[p];
                int value = items.partValue[p];
                endBlocks(tree, items.owner[item], page);
                if (value < 0) {
                    current = BLOCK_PART - value;
                    drawBrace(tree, '{', page);
                } else {
                    if (value == items.first[item] && items.rank[item] > 0) {
                        page.putApart();
                        page.put(';');
                    }
                    page.putApart();
                    page.putToken(text, reading.tokens.place[value], reading.tokens.length[value]);
                }
            }
            endBlocks(tree, 0, page);
        }

        private void endBlocks(Tree tree, int outer, Page page) {
            for (int step = 0; step < MOST_BLOCKS && current != outer && current != NONE; step++) {
                drawBrace(tree, '}', page);
                current = tree.blockAround(current);
            }
        }

        private void drawBrace(Tree tree, int brace, Page page) {
            if (tree.blocks.has(current) && isStepped(tree.blocks.kind[current])) {
                page.putApart();
                page.put(brace);
            }
        }

        /** False, if a token stands where a new reading would take it into an empty block. */
        boolean drawAnew(Reading reading, Text text, Page page, int n) {
            Items items = reading.tree.items;
            page.clear();
            current = 0;
            indent = 0;
            boolean clean = true;
            for (int p = 0; p < items.partTotal; p++) {
                int value = items.partValue[p];
                int left = leaveTo(reading.tree, items.owner[items.partItem[p]]);
                if (value < 0) {
                    enterBlock(BLOCK_PART - value);
                } else {
                    clean = clean && !followsEmpty(reading, left, value);
                    drawGap(reading.tree, items.partItem[p], value, left, page, n);
                    page.putToken(text, reading.tokens.place[value], reading.tokens.length[value]);
                }
            }
            if (page.size > 0) {
                page.put(LINE_END);
            }
            return clean;
        }

        private void enterBlock(int b) {
            if (b >= 0 && b < ground.length) {
                ground[b] = indent;
                current = b;
            }
        }

        /** The outermost block that is left behind on the way; NONE, if there is none. */
        private int leaveTo(Tree tree, int outer) {
            int left = NONE;
            for (int step = 0; step < MOST_BLOCKS && current != outer && current != NONE; step++) {
                left = current;
                current = tree.blockAround(current);
            }
            return left;
        }

        private boolean followsEmpty(Reading reading, int left, int k) {
            Blocks blocks = reading.tree.blocks;
            return blocks.has(left) && k != reading.tree.items.first[reading.tree.itemOf[k]]
                    && blocks.itemCount[left] == 0 && reading.tokens.role[k] != CLOSER;
        }

        /** What stands ahead of a token: the beginning of a line, or a blank. */
        private void drawGap(Tree tree, int item, int k, int left, Page page, int n) {
            Blocks blocks = tree.blocks;
            int b = tree.items.owner[item];
            int kind = blocks.kind[b];
            if (k == tree.items.first[item] && kind != BRACKETED) {
                margin[item] = kind == FLAT ? 0 : ground[b] + 2 * n;
                beginLine(margin[item], page);
            } else if (k != tree.items.first[item] && blocks.has(left)
                    && isStepped(blocks.kind[left]) && blocks.itemCount[left] > 0) {
                beginLine(margin[item] + (kind == LISTED || kind == LET ? n : 0), page);
            } else {
                page.put(BLANK);
            }
        }

        private void beginLine(int blanks, Page page) {
            if (page.size > 0) {
                page.put(LINE_END);
            }
            page.putBlanks(blanks);
            indent = blanks;
        }
    }
}
