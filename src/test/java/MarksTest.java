/** Promises 29 to 31: marks, deepen, markAt. */
public final class MarksTest {
    private static final int OUTSIDE = IndentReader.OUTSIDE, STATE = IndentReader.STATE;
    private static final int INDEX = -12, SIZE = -13;
    private static final String TEXT = "let x (b)\n    y do\n      'q\nr' 12\n  in of\nz -\n 7";
    private static final int[] DEPTHS = {1, 2, 2, 3, 2, 2, 2, 3, 3, 1, 1, 1, 1, 1};
    private static final Check check = new Check();

    public static void main(String[] args) {
        rows();
        depths();
        shortRows();
        refusals();
        check.end();
    }

    private static void rows() {
        IndentReader x = new IndentReader();
        check.due("at first no places", x.markAt(0), INDEX);
        check.due("below 0", x.marks(-1), SIZE);
        check.due("least", x.marks(Integer.MIN_VALUE), SIZE);
        check.due("201", x.marks(201), OUTSIDE);
        check.due("greatest", x.marks(Integer.MAX_VALUE), OUTSIDE);
        check.due("still no places", x.markAt(0), INDEX);
        check.due("200", x.marks(200), 200);
        check.due("first", x.markAt(0), 0);
        check.due("last", x.markAt(199), 0);
        check.due("behind it", x.markAt(200), INDEX);
        check.due("ahead of it", x.markAt(-1), INDEX);
        check.due("refused", x.marks(-1), SIZE);
        check.due("changes nothing", x.markAt(199), 0);
        check.due("none", x.marks(0), 0);
        check.due("instead of those", x.markAt(0), INDEX);
    }

    private static void depths() {
        IndentReader x = Check.afterRead(TEXT);
        x.marks(20);
        check.due("how many came", x.deepen(), 14);
        for (int k = 0; k < 20; k++) {
            check.due("depth " + k, x.markAt(k), k < 14 ? DEPTHS[k] : 0);
        }
        x.cut(5);
        x.read();
        check.due("two", x.deepen(), 2);
        check.due("the others stay", x.markAt(8), 3);
        x.marks(14);
        check.due("a new row", x.markAt(8), 0);
        x.marks(2);
        check.due("just long enough", x.deepen(), 2);
    }

    private static void shortRows() {
        IndentReader x = Check.afterRead(TEXT);
        check.due("no places", x.deepen(), INDEX);
        x.marks(13);
        check.due("one too few", x.deepen(), INDEX);
        for (int k = 0; k < 13; k++) {
            check.due("came ahead " + k, x.markAt(k), DEPTHS[k]);
        }
        check.due("none behind", x.markAt(13), INDEX);
        IndentReader y = Check.afterRead("");
        check.due("none to come", y.deepen(), 0);
        IndentReader z = Check.afterRead("=".repeat(201));
        z.marks(200);
        check.due("201 tokens", z.deepen(), INDEX);
        check.due("the deepest", z.markAt(199), 200);
    }

    private static void refusals() {
        IndentReader x = Check.withText("a");
        x.marks(2);
        check.due("not read", x.deepen(), STATE);
        check.due("nothing came", x.markAt(0), 0);
        Check.feed(x, " )");
        x.read();
        check.due("a fault", x.deepen(), STATE);
        check.due("nothing came then", x.markAt(0), 0);
    }
}
