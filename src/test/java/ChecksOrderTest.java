/** "Checks are made in this order": calls that are wrong in two ways or more at once. */
public final class ChecksOrderTest {
    private static final int FAR = Integer.MAX_VALUE;

    public static void main(String[] args) {
        indexBeforeTurn();
        indexBeforeRange();
        indexBeforeMeaning();
        turnBeforeRangeInFullTables();
        turnBeforeRangeWithoutRows();
        turnBeforeRangeAndMeaningInAFullBox();
        turnBeforeMeaningInTheFlowTable();
        rangeBeforeMeaning();
        Check.end();
    }

    private static void indexBeforeTurn() {
        new Run("index before turn").due(0, "box", 1, 1, 1).due(1, "box", 2, 2, 2)
                .refused(Check.INDEX, "join", 0, 0, 0).refused(Check.INDEX, "join", 0, 2, 0)
                .refused(Check.INDEX, "join", -1, 0, 0).refused(Check.INDEX, "join", 2, 2, 0)
                .refused(Check.INDEX, "join", FAR, FAR, 0)
                .refused(Check.INDEX, "cutOff", 2).refused(Check.INDEX, "cutOff", -1)
                .refused(Check.TURN, "join", 0, 1, 0).refused(Check.TURN, "cutOff", 1);
    }

    private static void indexBeforeRange() {
        new Run("index before range").due(0, "box", 1, 1, 1).due(1, "cylinder", 2, 2)
                .refused(Check.INDEX, "face", 2, 0, 3).refused(Check.INDEX, "face", -1, 0, -1)
                .refused(Check.INDEX, "face", 0, 6, 3).refused(Check.INDEX, "face", 0, -1, -1)
                .refused(Check.INDEX, "face", 1, 3, 3).refused(Check.INDEX, "face", 1, 5, FAR)
                .refused(Check.RANGE, "face", 0, 5, 3).refused(Check.RANGE, "face", 1, 2, -1);
    }

    private static void indexBeforeMeaning() {
        Run run = new Run("index before meaning").due(0, "cylinder", 1, 1);
        for (int face = 0; face < 3; face++) {
            run.done("face", 0, face, 0);
        }
        run.refused(Check.INDEX, "modulus", 0, 2).refused(Check.INDEX, "modulus", 0, -1)
                .refused(Check.INDEX, "modulus", 1, 0).refused(Check.INDEX, "riser", 1)
                .refused(Check.INDEX, "riser", -1)
                .refused(Check.MEANING, "modulus", 0, 1).refused(Check.MEANING, "riser", 0);
    }

    private static void turnBeforeRangeInFullTables() {
        Run run = new Run("turn before range");
        for (int many = 1; many <= 8; many++) {
            run.due(many, "riserRow", 1, 1).due(many, "flowRow", many, 0);
        }
        for (int part = 0; part < 12; part++) {
            run.due(part, "box", 1, 1, 1);
        }
        run.refused(Check.TURN, "box", 0, 1, 1).refused(Check.TURN, "box", 1, 1001, 1)
                .refused(Check.TURN, "box", FAR, FAR, FAR)
                .refused(Check.TURN, "cylinder", 0, 1).refused(Check.TURN, "cylinder", 1, 1001)
                .refused(Check.TURN, "riserRow", 0, 1).refused(Check.TURN, "riserRow", 1, 1001)
                .refused(Check.TURN, "flowRow", -1, 0)
                .refused(Check.TURN, "flowRow", 9, 1_000_001)
                .refused(Check.TURN, "flowRow", FAR, FAR);
    }

    private static void turnBeforeRangeWithoutRows() {
        new Run("turn before range").refused(Check.TURN, "flow", -1)
                .refused(Check.TURN, "flow", 10_001).refused(Check.TURN, "flow", FAR)
                .refused(Check.TURN, "gate", -1).refused(Check.TURN, "gate", 1_000_001)
                .refused(Check.TURN, "gate", FAR);
    }

    private static void turnBeforeRangeAndMeaningInAFullBox() {
        Run run = new Run("turn before range and meaning");
        for (int thing = 0; thing < 40; thing++) {
            run.due(thing, "pack", 1, 1);
        }
        run.refused(Check.TURN, "pack", 0, 1).refused(Check.TURN, "pack", 1, 2001)
                .refused(Check.TURN, "pack", FAR, FAR)
                .refused(Check.TURN, "pack", 1001, 1).refused(Check.TURN, "pack", 1, 1000);
    }

    private static void turnBeforeMeaningInTheFlowTable() {
        Run run = new Run("turn before meaning");
        for (int many = 1; many <= 8; many++) {
            run.due(many, "flowRow", many, 5);
        }
        run.refused(Check.TURN, "flowRow", 8, 5).refused(Check.TURN, "flowRow", 9, 4)
                .refused(Check.TURN, "flowRow", 0, 0);
    }

    private static void rangeBeforeMeaning() {
        new Run("range before meaning").due(1, "flowRow", 5, 5)
                .refused(Check.RANGE, "flowRow", -1, 5).refused(Check.RANGE, "flowRow", -1, 0)
                .refused(Check.RANGE, "flowRow", 4, 1_000_001)
                .refused(Check.RANGE, "flowRow", 10_001, 4).refused(Check.RANGE, "flowRow", 6, -1)
                .refused(Check.RANGE, "gate", 1_000_001).refused(Check.RANGE, "gate", FAR)
                .refused(Check.MEANING, "gate", 1_000_000)
                .refused(Check.RANGE, "pack", 2001, 1).refused(Check.RANGE, "pack", 1, 2001)
                .refused(Check.RANGE, "pack", 2000, 0).refused(Check.RANGE, "pack", 0, 2000)
                .refused(Check.MEANING, "pack", 2000, 2000);
    }
}
