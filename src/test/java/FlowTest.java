/** Promises 13 to 15: flowRow, flow, gate. */
public final class FlowTest {
    private static final int LEAST = Integer.MIN_VALUE;
    private static final int MOST = Integer.MAX_VALUE;

    public static void main(String[] args) {
        flowRows(new FeedModulus());
        wrongRows(new FeedModulus());
        oneRow(new FeedModulus());
        between(new FeedModulus());
        greatest(new FeedModulus());
        gates(new FeedModulus());
        Check.end();
    }

    private static void row(FeedModulus x, int opening, int flow, int many) {
        Check.due("flowRow(" + opening + ", " + flow + ")", many, () -> x.flowRow(opening, flow));
    }

    private static void flow(FeedModulus x, int opening, int want) {
        Check.due("flow(" + opening + ")", want, () -> x.flow(opening));
    }

    private static void gate(FeedModulus x, int aim, int want) {
        Check.due("gate(" + aim + ")", want, () -> x.gate(aim));
    }

    private static void flowRows(FeedModulus x) {
        row(x, 0, 0, 1);
        row(x, 1, 0, 2);
        row(x, 2, 7, 3);
        Check.refused("the same opening", Check.MEANING, () -> x.flowRow(2, 8));
        Check.refused("a lower opening", Check.MEANING, () -> x.flowRow(1, 8));
        Check.refused("a lower flow", Check.MEANING, () -> x.flowRow(3, 6));
        row(x, 3, 7, 4);
        for (int many = 5; many <= 7; many++) {
            row(x, many, 7, many);
        }
        row(x, 10_000, 1_000_000, 8);
        Check.refused("a 9th row", Check.TURN, () -> x.flowRow(10_000, 1_000_000));
        Check.refused("turn before range", Check.TURN, () -> x.flowRow(-1, -1));
        flow(x, 10_000, 1_000_000);
        flow(x, 2, 7);
        flow(x, 6, 7);
    }

    private static void wrongRows(FeedModulus x) {
        for (int wrong : new int[] {-1, 10_001, LEAST, MOST}) {
            Check.refused("row's opening " + wrong, Check.RANGE, () -> x.flowRow(wrong, 0));
            Check.refused("turn before range", Check.TURN, () -> x.flow(wrong));
        }
        for (int wrong : new int[] {-1, 1_000_001, LEAST, MOST}) {
            Check.refused("row's flow " + wrong, Check.RANGE, () -> x.flowRow(0, wrong));
            Check.refused("turn before range", Check.TURN, () -> x.gate(wrong));
        }
        row(x, 5, 5, 1);
        Check.refused("range before meaning", Check.RANGE, () -> x.flowRow(-1, 5));
        Check.refused("range before meaning", Check.RANGE, () -> x.flowRow(6, -1));
        for (int wrong : new int[] {-1, 10_001, LEAST, MOST}) {
            Check.refused("flow(" + wrong + ")", Check.RANGE, () -> x.flow(wrong));
        }
        for (int wrong : new int[] {-1, 1_000_001, LEAST, MOST}) {
            Check.refused("gate(" + wrong + ")", Check.RANGE, () -> x.gate(wrong));
        }
        row(x, 6, 6, 2);
    }

    private static void oneRow(FeedModulus x) {
        row(x, 5_000, 300, 1);
        flow(x, 0, 300);
        flow(x, 4_999, 300);
        flow(x, 5_000, 300);
        flow(x, 5_001, 300);
        flow(x, 10_000, 300);
        gate(x, 0, 0);
        gate(x, 300, 0);
        Check.refused("gate(301)", Check.MEANING, () -> x.gate(301));
    }

    private static void between(FeedModulus x) {
        row(x, 10, 3, 1);
        row(x, 13, 4, 2);
        row(x, 20, 4, 3);
        row(x, 27, 104, 4);
        int[] openings = {0, 9, 10, 11, 12, 13, 14, 19, 20, 21, 22, 23, 26, 27, 28, 10_000};
        int[] flows = {3, 3, 3, 3, 3, 4, 4, 4, 4, 18, 32, 46, 89, 104, 104, 104};
        for (int i = 0; i < openings.length; i++) {
            flow(x, openings[i], flows[i]);
        }
    }

    private static void greatest(FeedModulus x) {
        row(x, 0, 0, 1);
        row(x, 10_000, 1_000_000, 2);
        flow(x, 1, 100);
        flow(x, 9_999, 999_900);
        flow(x, 5_000, 500_000);
        gate(x, 1_000_000, 10_000);
        gate(x, 999_901, 10_000);
        gate(x, 999_900, 9_999);
        gate(x, 1, 1);
        gate(x, 101, 2);
        FeedModulus y = new FeedModulus();
        row(y, 1, 0, 1);
        row(y, 10_000, 999_999, 2);
        flow(y, 5_000, 499_949);
        flow(y, 9_999, 999_898);
    }

    private static void gates(FeedModulus x) {
        row(x, 100, 0, 1);
        row(x, 500, 2_000, 2);
        row(x, 1_000, 2_000, 3);
        row(x, 4_000, 90_000, 4);
        gate(x, 0, 0);
        gate(x, 1, 101);
        gate(x, 5, 101);
        gate(x, 6, 102);
        gate(x, 2_000, 500);
        gate(x, 2_001, 1_001);
        gate(x, 90_000, 4_000);
        Check.refused("gate(90001)", Check.MEANING, () -> x.gate(90_001));
        Check.refused("gate(1000000)", Check.MEANING, () -> x.gate(1_000_000));
        row(x, 5_000, 90_001, 5);
        gate(x, 90_001, 5_000);
    }
}
