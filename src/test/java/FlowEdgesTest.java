/** The sentences on flow rows, flows and gates that name an edge (promises 13 to 15). */
public final class FlowEdgesTest {
    private static final int HERE = Run.HERE;
    private static final int[] NO_OPENING = Run.beyond(0, 10_000);
    private static final int[] NO_FLOW = Run.beyond(0, 1_000_000);

    public static void main(String[] args) {
        eightRows();
        openingsOfRows();
        flowsOfRows();
        openingsRise();
        flowsDoNotFall();
        nothingFollowsTheWidest();
        flowWithoutRows();
        openingsAsked();
        roundedDown();
        greatProducts();
        belowTheFirst();
        aboveTheLast();
        atTheRowsThemselves();
        flowOfOneRow();
        gateWithoutRows();
        aims();
        flowAtTheWidestIsBelow();
        gateAtZero();
        gateAtTheWidest();
        gateIsTheLeast();
        gateOverEveryOpening();
        Check.end();
    }

    private static void eightRows() {
        Run run = new Run("FLOW ROWS, at most 8. Turn: there are 8");
        for (int many = 1; many <= 8; many++) {
            run.due(many, "flowRow", many * 10, many * 100);
        }
        run.refused(Check.TURN, "flowRow", 90, 900).refused(Check.TURN, "flowRow", 10, 100)
                .refused(Check.TURN, "flowRow", 10_000, 1_000_000)
                .due(800, "flow", 80).due(800, "flow", 90).due(750, "flow", 75);
    }

    private static void openingsOfRows() {
        String sentence = "an OPENING (0 .. 10,000)";
        new Run(sentence).refusedWithEach(NO_OPENING, Check.RANGE, "flowRow", HERE, 5)
                .due(1, "flowRow", 0, 5)
                .refusedWithEach(NO_OPENING, Check.RANGE, "flowRow", HERE, 5)
                .due(2, "flowRow", 10_000, 5).due(5, "flow", 10_000);
    }

    private static void flowsOfRows() {
        String sentence = "a FLOW (0 .. 1,000,000)";
        new Run(sentence).refusedWithEach(NO_FLOW, Check.RANGE, "flowRow", 5, HERE)
                .due(1, "flowRow", 5, 0)
                .refusedWithEach(NO_FLOW, Check.RANGE, "flowRow", 6, HERE)
                .due(2, "flowRow", 6, 1_000_000).due(0, "flow", 5).due(1_000_000, "flow", 6);
    }

    private static void openingsRise() {
        new Run("the openings rising").due(1, "flowRow", 5, 7)
                .refused(Check.MEANING, "flowRow", 5, 7).refused(Check.MEANING, "flowRow", 5, 8)
                .refused(Check.MEANING, "flowRow", 4, 7).refused(Check.MEANING, "flowRow", 0, 9)
                .due(2, "flowRow", 6, 7)
                .refused(Check.MEANING, "flowRow", 6, 7).refused(Check.MEANING, "flowRow", 5, 8)
                .due(3, "flowRow", 7, 8).due(7, "flow", 6).due(8, "flow", 7);
    }

    private static void flowsDoNotFall() {
        new Run("the flows not falling").due(1, "flowRow", 5, 7)
                .refused(Check.MEANING, "flowRow", 6, 6).refused(Check.MEANING, "flowRow", 9, 0)
                .due(2, "flowRow", 6, 7).due(3, "flowRow", 7, 8)
                .refused(Check.MEANING, "flowRow", 8, 7).due(4, "flowRow", 8, 8)
                .due(7, "flow", 6).due(8, "flow", 8);
    }

    private static void nothingFollowsTheWidest() {
        new Run("the openings rising").due(1, "flowRow", 10_000, 1_000_000)
                .refused(Check.MEANING, "flowRow", 10_000, 1_000_000)
                .refused(Check.MEANING, "flowRow", 9_999, 1_000_000)
                .refused(Check.RANGE, "flowRow", 10_001, 1_000_000).due(1_000_000, "flow", 0);
    }

    private static void flowWithoutRows() {
        new Run("flow. Turn: there are no rows").refused(Check.TURN, "flow", 0)
                .refused(Check.TURN, "flow", 10_000)
                .due(1, "flowRow", 0, 0).due(0, "flow", 0).due(0, "flow", 10_000);
    }

    private static void openingsAsked() {
        new Run("flow. range: the opening").due(1, "flowRow", 0, 3)
                .due(2, "flowRow", 10_000, 9).due(3, "flow", 0).due(9, "flow", 10_000)
                .refusedWithEach(NO_OPENING, Check.RANGE, "flow", HERE);
    }

    private static void roundedDown() {
        Run run = new Run("rounded down").due(1, "flowRow", 10, 5).due(2, "flowRow", 13, 7)
                .due(3, "flowRow", 16, 8).due(4, "flowRow", 18, 11);
        int[] flows = {5, 5, 6, 7, 7, 7, 8, 9, 11};
        for (int i = 0; i < flows.length; i++) {
            run.due(flows[i], "flow", 10 + i);
        }
        // Just a whole number, and the last one below it.
        new Run("rounded down").due(1, "flowRow", 0, 0).due(2, "flowRow", 10_000, 9_999)
                .due(0, "flow", 1).due(4_999, "flow", 5_000).due(9_998, "flow", 9_999)
                .due(9_999, "flow", 10_000);
    }

    private static void greatProducts() {
        new Run("(b's less a's) times (the opening less a's)").due(1, "flowRow", 0, 0)
                .due(2, "flowRow", 10_000, 1_000_000).due(100, "flow", 1)
                .due(214_700, "flow", 2_147).due(214_800, "flow", 2_148)
                .due(429_600, "flow", 4_296).due(999_900, "flow", 9_999)
                .due(1_000_000, "flow", 10_000);
    }

    private static void belowTheFirst() {
        new Run("below the first row it is the first one's").due(1, "flowRow", 100, 50)
                .due(2, "flowRow", 200, 150).due(50, "flow", 0).due(50, "flow", 99)
                .due(50, "flow", 100).due(51, "flow", 101);
    }

    private static void aboveTheLast() {
        new Run("above the last the last one's").due(1, "flowRow", 100, 50)
                .due(2, "flowRow", 200, 150).due(149, "flow", 199).due(150, "flow", 200)
                .due(150, "flow", 201).due(150, "flow", 10_000);
    }

    private static void atTheRowsThemselves() {
        Run run = new Run("The flow at an opening between two rows");
        int[] openings = {0, 1, 2, 5_000, 5_001, 9_998, 9_999, 10_000};
        int[] flows = {0, 1, 500_000, 500_000, 500_001, 999_998, 999_999, 1_000_000};
        for (int row = 0; row < 8; row++) {
            run.due(row + 1, "flowRow", openings[row], flows[row]);
        }
        // The fourth row's flow is there from the third row on.
        int[] gates = {0, 1, 2, 2, 5_001, 9_998, 9_999, 10_000};
        for (int row = 0; row < 8; row++) {
            run.due(flows[row], "flow", openings[row]).due(gates[row], "gate", flows[row]);
        }
    }

    private static void flowOfOneRow() {
        new Run("below the first row, above the last").due(1, "flowRow", 5, 7)
                .due(7, "flow", 0).due(7, "flow", 4).due(7, "flow", 5).due(7, "flow", 6)
                .due(7, "flow", 10_000).due(0, "gate", 0).due(0, "gate", 7)
                .refused(Check.MEANING, "gate", 8);
    }

    private static void gateWithoutRows() {
        new Run("gate. Turn: there are no rows").refused(Check.TURN, "gate", 0)
                .refused(Check.TURN, "gate", 1_000_000).due(1, "flowRow", 0, 0)
                .due(0, "gate", 0);
    }

    private static void aims() {
        new Run("The gate for an aim (0 .. 1,000,000)").due(1, "flowRow", 0, 0)
                .due(2, "flowRow", 10_000, 1_000_000).due(0, "gate", 0)
                .due(10_000, "gate", 1_000_000)
                .refusedWithEach(NO_FLOW, Check.RANGE, "gate", HERE);
    }

    private static void flowAtTheWidestIsBelow() {
        String sentence = "meaning: the flow at 10,000 is below it";
        new Run(sentence).due(1, "flowRow", 0, 0).due(2, "flowRow", 300, 77)
                .due(300, "gate", 77).refused(Check.MEANING, "gate", 78)
                .refused(Check.MEANING, "gate", 1_000_000)
                .due(3, "flowRow", 10_000, 78).due(10_000, "gate", 78)
                .refused(Check.MEANING, "gate", 79);
        new Run(sentence).due(1, "flowRow", 0, 0).due(0, "gate", 0)
                .refused(Check.MEANING, "gate", 1);
    }

    private static void gateAtZero() {
        new Run("low = 0").due(1, "flowRow", 0, 5).due(2, "flowRow", 1, 6)
                .due(0, "gate", 0).due(0, "gate", 5).due(1, "gate", 6);
    }

    private static void gateAtTheWidest() {
        new Run("high = 10,000").due(1, "flowRow", 9_999, 5).due(2, "flowRow", 10_000, 6)
                .due(0, "gate", 5).due(10_000, "gate", 6).refused(Check.MEANING, "gate", 7);
    }

    private static void gateIsTheLeast() {
        new Run("when its flow is not below the aim it is the new high")
                .due(1, "flowRow", 10, 0).due(2, "flowRow", 20, 30)
                .due(3, "flowRow", 30, 30).due(4, "flowRow", 33, 31)
                .due(0, "gate", 0).due(11, "gate", 1).due(11, "gate", 3).due(12, "gate", 4)
                .due(19, "gate", 27).due(20, "gate", 28).due(20, "gate", 30)
                .due(33, "gate", 31).refused(Check.MEANING, "gate", 32);
    }

    /** One step in the flow at each opening that halving comes by, and beside it. */
    private static void gateOverEveryOpening() {
        int[] steps = {
            1, 2, 3, 4, 9, 19, 39, 40, 78, 156, 312, 625, 1_250, 2_499, 2_500, 2_501, 4_999, 5_000,
            5_001, 5_002, 7_500, 7_501, 8_750, 8_751, 9_375, 9_998, 9_999, 10_000,
        };
        for (int step : steps) {
            new Run("THE GATE for an aim").due(1, "flowRow", step - 1, 0)
                    .due(2, "flowRow", step, 1_000_000)
                    .due(step, "gate", 1).due(step, "gate", 1_000_000).due(0, "gate", 0)
                    .due(0, "flow", step - 1).due(1_000_000, "flow", step);
        }
    }
}
