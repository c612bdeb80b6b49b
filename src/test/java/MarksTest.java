import java.util.function.Supplier;

/** Promises 29 to 31: marks, deepen, markAt. */
public final class MarksTest {
    private static final int OUTSIDE = -2, STATE = -3, INDEX = -12, SIZE = -13;
    private static final String TEXT = "let x (b)\n    y do\n      'q\nr' 12\n  in of\nz -\n 7";
    private static final int[] DEPTHS = {1, 2, 2, 3, 2, 2, 2, 3, 3, 1, 1, 1, 1, 1};
    private static final Check check = new Check();

    public static void main(String[] args) {
        check.runAll(MarksTest.class);
    }

    /** With a row that has numbers other than 0, so that a refused call could be seen to spoil it. */
    private static Run withRow(int n) {
        Run x = Run.afterRead("a (b)");
        x.marks(n);
        x.deepen();
        return x;
    }

    // ---- 29

    @Says(promise = 29, value = "A row of n numbers 0 is there for deepen() (instead of the one before): n.")
    private static void aRowOfNoughts() {
        for (int n : new int[] {0, 1, 2, 199, 200}) {
            Run x = new Run();
            check.due("marks(" + n + ")", x.marks(n), n);
            for (int i = 0; i < n; i++) {
                check.due("place " + i, x.markAt(i), 0);
            }
            check.due("behind it", x.markAt(n), INDEX);
        }
    }

    @Says(promise = 29, value = "A row of n numbers 0 is there for deepen() (instead of the one before): n.")
    private static void aRowInsteadOfTheOneBefore() {
        Run x = withRow(10);
        check.due("of the one before", x.markAt(2), 2);
        check.due("as long", x.marks(10), 10);
        for (int i = 0; i < 10; i++) {
            check.due("noughts again: " + i, x.markAt(i), 0);
        }
        x.deepen();
        check.due("a shorter one", x.marks(1), 1);
        check.due("its place", x.markAt(0), 0);
        check.due("no place of the longer one", x.markAt(1), INDEX);
        x.deepen();
        check.due("a longer one", x.marks(20), 20);
        for (int i = 0; i < 20; i++) {
            check.due("noughts all over: " + i, x.markAt(i), 0);
        }
        check.due("none", x.marks(0), 0);
        check.due("no place at all", x.markAt(0), INDEX);
    }

    @Says(promise = 29, value = "SIZE;")
    private static void aRowBelowNought() {
        for (int n : new int[] {-1, -2, -200, Integer.MIN_VALUE}) {
            check.refused("marks(" + n + ")", () -> withRow(10), x -> x.marks(n), SIZE);
        }
        check.due("0 is not below", withRow(10).marks(0), 0);
    }

    @Says(promise = 29, value = "OUTSIDE: above 200.")
    private static void aRowAboveTwoHundred() {
        check.due("199", withRow(10).marks(199), 199);
        check.due("200", withRow(10).marks(200), 200);
        for (int n : new int[] {201, 202, 1000, Integer.MAX_VALUE}) {
            check.refused("marks(" + n + ")", () -> withRow(10), x -> x.marks(n), OUTSIDE);
        }
    }

    // ---- 30

    @Says(promise = 30, value = {"The depth of TOKENS comes to the row of marks()",
        "place k gets how many BLOCKS are around TOKEN k: how many came."})
    private static void depthsComeToTheRow() {
        Run x = Run.afterRead(TEXT);
        x.marks(20);
        check.due("how many came", x.deepen(), 14);
        for (int k = 0; k < 20; k++) {
            check.due("depth " + k, x.markAt(k), k < 14 ? DEPTHS[k] : 0);
        }
        x.readAnew("(a)");
        check.due("three", x.deepen(), 3);
        check.due("new ones", x.markAt(1), 2);
        check.due("the others stay", x.markAt(8), 3);
        Run deep = Run.afterRead("=".repeat(200));
        deep.marks(200);
        check.due("200 came", deep.deepen(), 200);
        check.due("the deepest", deep.markAt(199), 200);
        check.due("the first", deep.markAt(0), 1);
    }

    @Says(promise = 30, value = "(at first it has no places):")
    private static void atFirstTheRowHasNoPlaces() {
        check.due("no place", new Run().markAt(0), INDEX);
        check.due("too short for one", Run.afterRead("a").deepen(), INDEX);
        Run x = Run.afterRead("a");
        x.deepen();
        check.due("still no place", x.markAt(0), INDEX);
        check.due("long enough for none", Run.afterRead("").deepen(), 0);
    }

    @Says(promise = 30, value = "STATE: as count;")
    private static void deepenWithoutAReading() {
        check.due("a new object", new Run().deepen(), STATE);
        Supplier<Run> unread = () -> {
            Run x = withRow(10);
            x.cut(0);
            x.feedAll("[(c)]");
            return x;
        };
        check.refused("not read", unread, x -> x.deepen(), STATE);
        for (String text : new String[] {"((c)) {", "((a\tb))", "((a)) do b", "((a))\n b", "((a)) )", "((a)) ("}) {
            check.refused("a fault in [" + text + "]", () -> {
                Run x = withRow(10);
                x.readAnew(text);
                return x;
            }, x -> x.deepen(), STATE);
        }
        Run shorter = Run.withText("a");
        check.due("ahead of INDEX", shorter.deepen(), STATE);
    }

    @Says(promise = 30, value = "INDEX: the row is shorter than there are TOKENS (those ahead of its end came).")
    private static void aRowThatIsTooShort() {
        for (int n = 0; n <= 15; n++) {
            Run x = Run.afterRead(TEXT);
            x.marks(n);
            check.due("a row of " + n, x.deepen(), n < 14 ? INDEX : 14);
            for (int k = 0; k < n; k++) {
                check.due("came ahead of its end: " + k + " of " + n, x.markAt(k), k < 14 ? DEPTHS[k] : 0);
            }
            check.due("none behind it of " + n, x.markAt(n), INDEX);
        }
        Run long201 = Run.afterRead("=".repeat(201));
        long201.marks(200);
        check.due("201 tokens", long201.deepen(), INDEX);
        check.due("the last that came", long201.markAt(199), 200);
        Run again = withRow(3);
        again.readAnew("((c))");
        check.due("too short now", again.deepen(), INDEX);
        check.due("the first came", again.markAt(0), 1);
        check.due("the second came", again.markAt(1), 2);
        check.due("the third came", again.markAt(2), 3);
        check.due("still read", again.count(0), 5);
    }

    // ---- 31

    @Says(promise = 31, value = "Place i of the row of marks().")
    private static void placesOfTheRow() {
        Run x = withRow(6);
        int[] wants = {1, 1, 2, 1, 0, 0};
        for (int i = 0; i < wants.length; i++) {
            check.due("place " + i, x.markAt(i), wants[i]);
        }
        x.cut(0);
        check.due("whatever becomes of the text", x.markAt(2), 2);
        x.read();
        check.due("or of the reading", x.markAt(2), 2);
    }

    @Says(promise = 31, value = "INDEX.")
    private static void noSuchPlace() {
        check.due("at first", new Run().markAt(0), INDEX);
        check.due("of a row without places", withRow(0).markAt(0), INDEX);
        check.due("the last of 6", withRow(6).markAt(5), 0);
        for (int i : new int[] {-1, 6, 7, 199, 200, 201, Integer.MIN_VALUE, Integer.MAX_VALUE}) {
            check.refused("place " + i + " of 6", () -> withRow(6), x -> x.markAt(i), INDEX);
        }
        check.due("199 of 200", withRow(200).markAt(199), 0);
        check.due("200 of 200", withRow(200).markAt(200), INDEX);
        check.due("-1 of 200", withRow(200).markAt(-1), INDEX);
    }
}
