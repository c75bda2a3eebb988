/** Promise 16: pattern. */
public final class PatternTest {
    private static final int LEAST = Integer.MIN_VALUE;
    private static final int MOST = Integer.MAX_VALUE;

    public static void main(String[] args) {
        FeedModulus x = new FeedModulus();
        pattern(x, 1, 0, 1);
        pattern(x, 1, 1, 2);
        pattern(x, 1, 100, 2);
        pattern(x, 10, 100, 11);
        pattern(x, 11, 100, 13);
        pattern(x, 500, 2, 501);
        pattern(x, 500, 3, 502);
        pattern(x, 999, 0, 999);
        pattern(x, 999, 1, 1000);
        pattern(x, 1000, 20, 1020);
        pattern(x, 1000, 100, 1100);
        for (int wrong : new int[] {0, -1, 1001, LEAST, MOST}) {
            Check.refused("pattern(" + wrong + ", 0)", Check.RANGE, () -> x.pattern(wrong, 0));
        }
        for (int wrong : new int[] {-1, 101, LEAST, MOST}) {
            Check.refused("pattern(1, " + wrong + ")", Check.RANGE, () -> x.pattern(1, wrong));
        }
        Check.end();
    }

    private static void pattern(FeedModulus x, int millimetres, int shrinkage, int want) {
        Check.due("pattern(" + millimetres + ", " + shrinkage + ")", want,
                () -> x.pattern(millimetres, shrinkage));
    }
}
