import java.util.ArrayDeque;
import java.util.ArrayList;
import java.util.Deque;
import java.util.HashMap;
import java.util.HashSet;
import java.util.List;
import java.util.Map;
import java.util.Set;
import java.util.regex.Matcher;
import java.util.regex.Pattern;

/**
 * The document's promises once more, written as plainly as can be, with the Java library, new objects for all,
 * recursion, and a whole new reading for each thing that is tried: what the class answers is held against it.
 */
final class Model {
    private static final int UNKNOWN = -1, OUTSIDE = -2, STATE = -3, FULL = -4, NONE = -9;
    private static final int CAST = -11, INDEX = -12, SIZE = -13;
    private static final String MARKS = "!\"$%&()*+,-./:;<=>?@[]^_|";
    private static final Pattern PIECE = Pattern.compile("(?s)(?<word>[a-z]+)|(?<number>[0-9]+)|(?<quote>'[^']*')"
            + "|(?<note>#[^\n]*)|(?<blank>[ \t\n])|(?<mark>[!\"$%&()*+,\\-./:;<=>?@\\[\\]^_|])");

    private static final class Tok {
        int number;
        int kind;
        int place;
        String bytes;
        int line;
        int column;
        boolean head;
        Itm item;
    }

    private static final class Itm {
        int number;
        Blk block;
        final List<Object> parts = new ArrayList<>();

        List<Tok> allTokens() {
            List<Tok> all = new ArrayList<>();
            for (Object part : parts) {
                if (part instanceof Tok) {
                    all.add((Tok) part);
                } else {
                    all.addAll(((Blk) part).allTokens());
                }
            }
            return all;
        }
    }

    private static final class Blk {
        int number;
        int kind;
        int column;
        Itm holder;
        Tok beginner;
        final List<Itm> items = new ArrayList<>();

        Itm latest() {
            return items.get(items.size() - 1);
        }

        List<Tok> allTokens() {
            List<Tok> all = new ArrayList<>();
            for (Itm item : items) {
                all.addAll(item.allTokens());
            }
            return all;
        }

        int around() {
            return holder == null ? 0 : 1 + holder.block.around();
        }

        boolean stepped() {
            return kind != 0 && kind != 4;
        }
    }

    private static final class Fault extends Exception {
        private static final long serialVersionUID = 1;
        final int kind;
        final int place;

        Fault(int kind, int place) {
            this.kind = kind;
            this.place = place;
        }
    }

    private static final class Outcome {
        final List<Tok> tokens = new ArrayList<>();
        final List<Blk> blocks = new ArrayList<>();
        final List<Itm> items = new ArrayList<>();
        int faultKind;
        int faultPlace = NONE;
        int faultLine = NONE;
        int faultColumn = NONE;
    }

    private final Map<String, Integer> openers = new HashMap<>();
    private final Map<String, String> pairs = new HashMap<>();
    private final Set<String> closers = new HashSet<>();
    private final Set<String> goers = new HashSet<>();
    private int tab;
    private String text = "";
    private String kept = "";
    private boolean isRead;
    private Outcome outcome = new Outcome();
    private String page = "";
    private int mends;
    private int mendedLine = NONE;
    private int mendedBy = NONE;
    private int[] row = new int[0];

    // ---- the book

    private static String nameOf(long w) {
        StringBuilder name = new StringBuilder();
        for (int i = 0; i < 8 && ((w >>> (8 * i)) & 255) != 0; i++) {
            name.append((char) ((w >>> (8 * i)) & 255));
        }
        return name.toString();
    }

    private static boolean isMark(String name) {
        return name.length() == 1 && MARKS.contains(name);
    }

    private static String markName(int b) {
        return b > 0 && b < 256 ? String.valueOf((char) b) : "";
    }

    private boolean told(String name) {
        return openers.containsKey(name) || pairs.containsKey(name) || pairs.containsValue(name)
                || closers.contains(name) || goers.contains(name);
    }

    int opener(long w, int kind) {
        String name = nameOf(w);
        if (!name.matches("[a-z]{1,8}") && !isMark(name)) {
            return OUTSIDE;
        }
        if (kind != 1 && kind != 2 && kind != 3 && kind != 5) {
            return OUTSIDE;
        }
        if (told(name)) {
            return STATE;
        }
        if (openers.size() == 8) {
            return FULL;
        }
        openers.put(name, kind);
        isRead = false;
        return openers.size();
    }

    int pair(int first, int second) {
        String a = markName(first);
        String b = markName(second);
        if (!isMark(a) || !isMark(b)) {
            return OUTSIDE;
        }
        if (told(a) || told(b) || a.equals(b)) {
            return STATE;
        }
        if (pairs.size() == 4) {
            return FULL;
        }
        pairs.put(a, b);
        isRead = false;
        return pairs.size();
    }

    int closer(long w) {
        String name = nameOf(w);
        if (!name.matches("[a-z]{1,8}")) {
            return OUTSIDE;
        }
        if (told(name)) {
            return STATE;
        }
        if (closers.size() == 4) {
            return FULL;
        }
        closers.add(name);
        isRead = false;
        return closers.size();
    }

    int goer(int mark) {
        String name = markName(mark);
        if (!isMark(name)) {
            return OUTSIDE;
        }
        if (told(name)) {
            return STATE;
        }
        if (goers.size() == 4) {
            return FULL;
        }
        goers.add(name);
        isRead = false;
        return goers.size();
    }

    int tab(int n) {
        if (n < 0 || n > 8) {
            return OUTSIDE;
        }
        int was = tab;
        tab = n;
        isRead = false;
        return was;
    }

    // ---- the text

    int feed(long w) {
        String more = nameOf(w);
        if (text.length() + more.length() > 600) {
            return FULL;
        }
        text += more;
        isRead = false;
        return text.length();
    }

    int cut(int n) {
        if (n < 0 || n > text.length()) {
            return OUTSIDE;
        }
        int gone = text.length() - n;
        text = text.substring(0, n);
        isRead = false;
        return gone;
    }

    private static List<String> linesOf(String text) {
        List<String> lines = new ArrayList<>();
        Matcher m = Pattern.compile("[^\n]*\n|[^\n]+$").matcher(text);
        while (m.find()) {
            lines.add(m.group());
        }
        return lines;
    }

    /** The text with one line shifted, or null, if that is refused. */
    private static String shifted(String text, int line, int by) {
        List<String> lines = linesOf(text);
        String old = lines.get(line);
        if (by < 0 && !old.startsWith(" ".repeat(-by))) {
            return null;
        }
        lines.set(line, by < 0 ? old.substring(-by) : " ".repeat(by) + old);
        String all = String.join("", lines);
        return all.length() > 600 ? null : all;
    }

    int shift(int line, int by) {
        List<String> lines = linesOf(text);
        if (line < 0 || line >= lines.size()) {
            return UNKNOWN;
        }
        if (by < -40 || by > 40) {
            return OUTSIDE;
        }
        String all = shifted(text, line, by);
        if (all == null) {
            return by < 0 ? STATE : FULL;
        }
        text = all;
        isRead = false;
        return 1;
    }

    int keep() {
        kept = text;
        return kept.length();
    }

    int byteAt(int i) {
        return i < 0 || i >= text.length() ? INDEX : text.charAt(i);
    }

    // ---- reading

    private static int lineAt(String text, int place) {
        int line = 0;
        for (int i = text.indexOf('\n'); i >= 0 && i < place; i = text.indexOf('\n', i + 1)) {
            line++;
        }
        return line;
    }

    private int columnAt(String text, int place) {
        int column = 0;
        for (int i = text.lastIndexOf('\n', place - 1) + 1; i < place; i++) {
            do {
                column++;
            } while (text.charAt(i) == '\t' && tab > 0 && column % tab != 0);
        }
        return column;
    }

    private Outcome outcomeOf(String text) {
        Outcome o = new Outcome();
        try {
            scan(text, o);
            grow(text, o);
        } catch (Fault fault) {
            o.faultKind = fault.kind;
            o.faultPlace = fault.place;
            o.faultLine = lineAt(text, fault.place);
            o.faultColumn = columnAt(text, fault.place);
        }
        return o;
    }

    private void scan(String text, Outcome o) throws Fault {
        int badTab = tab == 0 && text.indexOf('\t') >= 0 ? text.indexOf('\t') : Integer.MAX_VALUE;
        int at = 0;
        Matcher m = PIECE.matcher(text);
        while (at < text.length()) {
            boolean found = m.find(at) && m.start() == at;
            if (found && (m.group("blank") != null || m.group("note") != null)) {
                at = m.end();
                continue;
            }
            if (!found || m.group("word") != null && m.group().length() > 8
                    || m.group("number") != null && m.group().length() > 9) {
                throw badTab < at ? new Fault(2, badTab) : new Fault(1, at);
            }
            Tok t = new Tok();
            t.number = o.tokens.size();
            t.kind = m.group("word") != null ? 0 : m.group("number") != null ? 1 : m.group("mark") != null ? 2 : 3;
            t.place = at;
            t.bytes = m.group();
            t.line = lineAt(text, at);
            t.column = columnAt(text, at);
            o.tokens.add(t);
            at = m.end();
        }
        if (badTab != Integer.MAX_VALUE) {
            throw new Fault(2, badTab);
        }
    }

    private static Itm newItem(Outcome o, Blk block) {
        Itm item = new Itm();
        item.number = o.items.size();
        item.block = block;
        o.items.add(item);
        block.items.add(item);
        return item;
    }

    private static Blk newBlock(Outcome o, int kind, int column, Itm holder, Tok beginner) {
        Blk block = new Blk();
        block.number = o.blocks.size();
        block.kind = kind;
        block.column = column;
        block.holder = holder;
        block.beginner = beginner;
        o.blocks.add(block);
        if (holder != null) {
            holder.parts.add(block);
        }
        return block;
    }

    private static void goOn(Tok t, Itm item) {
        t.item = item;
        item.parts.add(t);
    }

    private void grow(String text, Outcome o) throws Fault {
        Deque<Blk> pile = new ArrayDeque<>();
        pile.push(newBlock(o, 0, 0, null, null));
        Tok before = null;
        Tok open = null;
        Tok latestHead = null;
        for (Tok t : o.tokens) {
            boolean inBracket = pile.peek().kind == 4;
            String lead = text.substring(text.lastIndexOf('\n', t.place - 1) + 1, t.place);
            t.head = lead.isBlank() && (before == null || !goers.contains(before.bytes)) && !inBracket;
            place(o, pile, t, open, latestHead);
            if (t.head) {
                latestHead = t;
            }
            if (pairs.containsKey(t.bytes)) {
                Blk bracket = newBlock(o, 4, pile.peek().column, t.item, t);
                newItem(o, bracket);
                pile.push(bracket);
            }
            open = openers.containsKey(t.bytes) && !inBracket ? t : null;
            before = t;
        }
        if (open != null) {
            if (openers.get(open.bytes) == 1) {
                throw new Fault(3, text.length());
            }
            newBlock(o, openers.get(open.bytes), NONE, open.item, open);
        }
        Blk lowest = null;
        for (Blk b : pile) {
            lowest = b.kind == 4 ? b : lowest;
        }
        if (lowest != null) {
            throw new Fault(6, lowest.beginner.place);
        }
    }

    private void place(Outcome o, Deque<Blk> pile, Tok t, Tok open, Tok latestHead) throws Fault {
        boolean ends = closers.contains(t.bytes) || pairs.containsValue(t.bytes);
        if (open != null) {
            int kind = openers.get(open.bytes);
            if (kind == 1 && (!t.head || t.column <= pile.peek().column || t.column <= latestHead.column || ends)) {
                throw new Fault(3, t.place);
            }
            if (t.column > pile.peek().column && !ends) {
                Blk b = newBlock(o, kind, t.column, open.item, open);
                pile.push(b);
                goOn(t, newItem(o, b));
                return;
            }
            newBlock(o, kind, NONE, open.item, open);
        }
        if (closers.contains(t.bytes)) {
            Blk let = null;
            for (Blk b : pile) {
                if (b.kind == 4 || b.kind == 5) {
                    let = b.kind == 5 ? b : null;
                    break;
                }
            }
            if (let != null) {
                while (pile.pop() != let) {
                    continue;
                }
                goOn(t, let.holder);
                return;
            }
        }
        if (pairs.containsValue(t.bytes)) {
            Blk b = pile.peek();
            if (b.kind != 4 || !pairs.get(b.beginner.bytes).equals(t.bytes)) {
                throw new Fault(5, t.place);
            }
            pile.pop();
            goOn(t, b.holder);
            return;
        }
        if (t.head) {
            while (pile.peek().column > t.column) {
                pile.pop();
            }
            if (pile.peek().column == t.column) {
                newItem(o, pile.peek());
            } else if (pile.peek().kind != 3 && pile.peek().kind != 5) {
                throw new Fault(4, t.place);
            }
        }
        goOn(t, pile.peek().latest());
    }

    int read() {
        outcome = outcomeOf(text);
        isRead = true;
        return outcome.faultKind == 0 ? outcome.tokens.size() : -100 - outcome.faultPlace;
    }

    private boolean good() {
        return isRead && outcome.faultKind == 0;
    }

    int fault(int what) {
        int[] answers = {outcome.faultKind, outcome.faultPlace, outcome.faultLine, outcome.faultColumn};
        return what < 0 || what > 3 ? OUTSIDE : answers[what];
    }

    int count(int what) {
        if (what < 0 || what > 4) {
            return OUTSIDE;
        }
        if (what < 3 && !good()) {
            return STATE;
        }
        int[] answers = {outcome.tokens.size(), outcome.blocks.size(), outcome.items.size(),
            linesOf(text).size(), text.length()};
        return answers[what];
    }

    int token(int k, int what) {
        if (!good()) {
            return STATE;
        }
        if (k < 0 || k >= outcome.tokens.size()) {
            return UNKNOWN;
        }
        Tok t = outcome.tokens.get(k);
        int[] answers = {t.kind, t.place, t.bytes.length(), t.line, t.column, t.head ? 1 : 0,
            t.item.number, t.item.block.number};
        return what < 0 || what > 7 ? OUTSIDE : answers[what];
    }

    private static int firstOf(List<Tok> tokens) {
        return tokens.isEmpty() ? NONE : tokens.get(0).number;
    }

    private static int lastOf(List<Tok> tokens) {
        return tokens.isEmpty() ? NONE : tokens.get(tokens.size() - 1).number;
    }

    int block(int k, int what) {
        if (!good()) {
            return STATE;
        }
        if (k < 0 || k >= outcome.blocks.size()) {
            return UNKNOWN;
        }
        Blk b = outcome.blocks.get(k);
        int[] answers = {b.kind, b.column, b.holder == null ? NONE : b.holder.number, b.items.size(),
            firstOf(b.allTokens()), lastOf(b.allTokens()), b.around(), b.beginner == null ? NONE : b.beginner.number};
        return what < 0 || what > 7 ? OUTSIDE : answers[what];
    }

    int item(int k, int what) {
        if (!good()) {
            return STATE;
        }
        if (k < 0 || k >= outcome.items.size()) {
            return UNKNOWN;
        }
        Itm i = outcome.items.get(k);
        int[] answers = {i.block.number, firstOf(i.allTokens()), lastOf(i.allTokens()), i.parts.size(),
            i.block.items.indexOf(i)};
        return what < 0 || what > 4 ? OUTSIDE : answers[what];
    }

    int part(int k, int i) {
        if (!good()) {
            return STATE;
        }
        if (k < 0 || k >= outcome.items.size()) {
            return UNKNOWN;
        }
        List<Object> parts = outcome.items.get(k).parts;
        if (i < 0 || i >= parts.size()) {
            return INDEX;
        }
        Object part = parts.get(i);
        return part instanceof Tok ? ((Tok) part).number : -100 - ((Blk) part).number;
    }

    int itemAs(int block, int kind, int i) {
        if (!good()) {
            return STATE;
        }
        if (block < 0 || block >= outcome.blocks.size()) {
            return UNKNOWN;
        }
        if (kind < 0 || kind > 5) {
            return OUTSIDE;
        }
        String[] taken = {"012345", "1235", "235", "3", "4", "5"};
        Blk b = outcome.blocks.get(block);
        if (taken[kind].indexOf('0' + b.kind) < 0) {
            return CAST;
        }
        return i < 0 || i >= b.items.size() ? INDEX : b.items.get(i).number;
    }

    int reach(boolean block, int k, int what) {
        if (!good()) {
            return STATE;
        }
        if (k < 0 || k >= (block ? outcome.blocks.size() : outcome.items.size())) {
            return UNKNOWN;
        }
        if (what < 0 || what > 3) {
            return OUTSIDE;
        }
        List<Tok> all = block ? outcome.blocks.get(k).allTokens() : outcome.items.get(k).allTokens();
        if (all.isEmpty()) {
            return NONE;
        }
        Tok last = all.get(all.size() - 1);
        int end = last.place + last.bytes.length() - 1;
        int[] answers = {all.get(0).line, all.get(0).column, lineAt(text, end), columnAt(text, end)};
        return answers[what];
    }

    int around(int block, int token) {
        if (!good()) {
            return STATE;
        }
        if (block < 0 || block >= outcome.blocks.size() || token < 0 || token >= outcome.tokens.size()) {
            return UNKNOWN;
        }
        return outcome.blocks.get(block).allTokens().contains(outcome.tokens.get(token)) ? 1 : 0;
    }

    // ---- writing

    private static List<String> plainOf(Blk b) {
        List<String> pieces = new ArrayList<>();
        for (Itm item : b.items) {
            if (item != b.items.get(0)) {
                pieces.add(";");
            }
            for (Object part : item.parts) {
                if (part instanceof Tok) {
                    pieces.add(((Tok) part).bytes);
                } else {
                    Blk inner = (Blk) part;
                    List<String> all = plainOf(inner);
                    if (inner.stepped()) {
                        all.add(0, "{");
                        all.add("}");
                    }
                    pieces.addAll(all);
                }
            }
        }
        return pieces;
    }

    int plain() {
        if (!good()) {
            return STATE;
        }
        page = String.join(" ", plainOf(outcome.blocks.get(0)));
        return page.length();
    }

    private int lineBlanks;
    private StringBuilder anew;

    private void line(int blanks) {
        if (anew.length() > 0) {
            anew.append('\n');
        }
        anew.append(" ".repeat(blanks));
        lineBlanks = blanks;
    }

    private void writeBlock(Blk b, int n) {
        int at = b.kind == 0 ? 0 : lineBlanks + 2 * n;
        for (Itm item : b.items) {
            Object before = null;
            for (Object part : item.parts) {
                if (part instanceof Blk) {
                    writeBlock((Blk) part, n);
                } else {
                    boolean behind = before instanceof Blk && ((Blk) before).stepped()
                            && !((Blk) before).items.isEmpty();
                    if (before == null && b.kind != 4) {
                        line(at);
                    } else if (behind) {
                        line(at + (b.kind == 3 || b.kind == 5 ? n : 0));
                    } else {
                        anew.append(' ');
                    }
                    anew.append(((Tok) part).bytes);
                }
                before = part;
            }
        }
    }

    int write(int n) {
        if (n < 1 || n > 8) {
            return OUTSIDE;
        }
        if (!good()) {
            return STATE;
        }
        for (Blk b : outcome.blocks) {
            if (b.items.isEmpty() && b.kind != 0) {
                List<Object> parts = b.holder.parts;
                int next = parts.indexOf(b) + 1;
                if (next < parts.size() && !closers.contains(((Tok) parts.get(next)).bytes)) {
                    return STATE;
                }
            }
        }
        anew = new StringBuilder();
        writeBlock(outcome.blocks.get(0), n);
        if (anew.length() > 0) {
            anew.append('\n');
        }
        if (anew.length() > 4000) {
            return FULL;
        }
        page = anew.toString();
        return page.length();
    }

    int written(int i) {
        return i < 0 || i >= page.length() ? NONE : page.charAt(i);
    }

    // ---- texts against one another

    int same() {
        if (!good()) {
            return STATE;
        }
        Outcome that = outcomeOf(kept);
        return that.faultKind != 0 ? STATE : shapeOf(outcome).equals(shapeOf(that)) ? 1 : 0;
    }

    private static String shapeOf(Outcome o) {
        StringBuilder s = new StringBuilder();
        for (Tok t : o.tokens) {
            s.append("T").append(t.bytes).append(" in ").append(t.item.number).append('\n');
        }
        for (Itm i : o.items) {
            s.append("I").append(i.block.number).append('\n');
        }
        for (Blk b : o.blocks) {
            s.append("B").append(b.kind).append(" in ").append(b.holder == null ? NONE : b.holder.number).append('\n');
        }
        return s.toString();
    }

    int parts() {
        if (!good()) {
            return STATE;
        }
        Outcome that = outcomeOf(kept);
        if (that.faultKind != 0) {
            return STATE;
        }
        for (int k = 0; k < Math.max(outcome.tokens.size(), that.tokens.size()); k++) {
            if (k >= outcome.tokens.size() || k >= that.tokens.size()) {
                return k;
            }
            Tok a = outcome.tokens.get(k);
            Tok b = that.tokens.get(k);
            if (!a.bytes.equals(b.bytes) || a.item.number != b.item.number
                    || a.item.block.number != b.item.block.number) {
                return k;
            }
        }
        return NONE;
    }

    int mend() {
        if (!isRead || outcome.faultKind == 0) {
            return STATE;
        }
        if (mends == 30) {
            return FULL;
        }
        int lines = linesOf(text).size();
        for (int far = 1; far <= 4; far++) {
            for (int line = 0; line < lines; line++) {
                for (int by = -far; by <= far; by += 2 * far) {
                    String all = shifted(text, line, by);
                    if (all != null && outcomeOf(all).faultKind == 0) {
                        text = all;
                        mends++;
                        mendedLine = line;
                        mendedBy = by;
                        isRead = false;
                        return 1;
                    }
                }
            }
        }
        mendedLine = NONE;
        mendedBy = NONE;
        return 0;
    }

    int mended(int what) {
        return what == 0 ? mendedLine : what == 1 ? mendedBy : OUTSIDE;
    }

    int marks(int n) {
        if (n < 0) {
            return SIZE;
        }
        if (n > 200) {
            return OUTSIDE;
        }
        row = new int[n];
        return n;
    }

    int deepen() {
        if (!good()) {
            return STATE;
        }
        for (Tok t : outcome.tokens) {
            if (t.number == row.length) {
                return INDEX;
            }
            row[t.number] = 1 + t.item.block.around();
        }
        return outcome.tokens.size();
    }

    int markAt(int i) {
        return i < 0 || i >= row.length ? INDEX : row[i];
    }
}
