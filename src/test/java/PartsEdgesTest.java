/** The sentences on new objects, parts, faces and moduli that name an edge (promises 1 to 5). */
public final class PartsEdgesTest {
    private static final int HERE = Run.HERE;
    private static final int[] NO_SIZE = Run.beyond(1, 1000);

    public static void main(String[] args) {
        noParts();
        noRows();
        emptyBox();
        firstNumbers();
        twelveBoxes();
        twelveCylinders();
        twelveOfBothKinds();
        sizesOfBoxes();
        sizesOfCylinders();
        refusedPartsTakeNoNumber();
        leastAndGreatestModuli();
        lowestTerms();
        facesOfBoxes();
        facesOfCylinders();
        facesOfNoPart();
        waysOfAFace();
        coolsAtFirst();
        chilledCountsTwice();
        aFaceSetToWhatItIs();
        howOftenSideAndEndsCount();
        boxWithoutACoolingFace();
        cylinderWithoutACoolingFace();
        modulusOfNoPart();
        noSuchPartOfTheFraction();
        Check.end();
    }

    private static Run modulus(Run run, int part, long upper, long lower) {
        return run.due(upper, "modulus", part, 0).due(lower, "modulus", part, 1);
    }

    private static void noParts() {
        new Run("No parts")
                .due(-1, "order", 0).due(-1, "unfed", 0)
                .refused(Check.INDEX, "face", 0, 0, 0)
                .refused(Check.INDEX, "modulus", 0, 0)
                .refused(Check.INDEX, "join", 0, 1, 1)
                .refused(Check.INDEX, "join", 0, 1, 0)
                .refused(Check.INDEX, "riser", 0)
                .refused(Check.INDEX, "cutOff", 0)
                .refused(Check.INDEX, "feeder", 0);
    }

    private static void noRows() {
        new Run("no rows")
                .refused(Check.TURN, "flow", 0).refused(Check.TURN, "gate", 0)
                .due(0, "box", 1, 1, 1).refused(Check.MEANING, "riser", 0);
    }

    private static void emptyBox() {
        new Run("an empty box").refused(Check.INDEX, "packed", 0, 0)
                .refused(Check.INDEX, "packed", 0, 1)
                .due(0, "pack", 1000, 1000).due(0, "packed", 0, 0).due(0, "packed", 0, 1);
    }

    private static void firstNumbers() {
        new Run("PARTS 0, 1, ..").due(0, "box", 1, 1, 1).due(1, "cylinder", 1, 1);
        new Run("PARTS 0, 1, ..").due(0, "cylinder", 1, 1).due(1, "box", 1, 1, 1);
        new Run("One more riser row: how many").due(1, "riserRow", 1, 1);
        new Run("One more flow row: how many").due(1, "flowRow", 0, 0);
    }

    private static void twelveBoxes() {
        Run run = new Run("at most 12, boxes");
        for (int part = 0; part < 12; part++) {
            run.due(part, "box", part + 1, 1, 1);
        }
        full(run);
        modulus(run, 11, 6, 25);
    }

    private static void twelveCylinders() {
        Run run = new Run("at most 12, cylinders");
        for (int part = 0; part < 12; part++) {
            run.due(part, "cylinder", 1, part + 1);
        }
        full(run);
        modulus(run, 11, 6, 25);
    }

    private static void twelveOfBothKinds() {
        Run run = new Run("at most 12, both kinds");
        for (int part = 0; part < 12; part += 2) {
            run.due(part, "cylinder", 1, 1).due(part + 1, "box", 1, 1, 1);
        }
        full(run);
        modulus(run, 0, 1, 6);
        modulus(run, 11, 1, 6);
    }

    private static void full(Run run) {
        run.refused(Check.TURN, "box", 1, 1, 1).refused(Check.TURN, "cylinder", 1, 1)
                .refused(Check.TURN, "box", 1000, 1000, 1000)
                .refused(Check.TURN, "cylinder", 1000, 1000)
                .refused(Check.INDEX, "modulus", 12, 0).refused(Check.INDEX, "feeder", 12);
    }

    private static void sizesOfBoxes() {
        String sentence = "BOXES of x, y, z millimetres (1 .. 1,000 each)";
        modulus(new Run(sentence).due(0, "box", 1, 1000, 1000), 0, 250, 501);
        modulus(new Run(sentence).due(0, "box", 1000, 1, 1000), 0, 250, 501);
        modulus(new Run(sentence).due(0, "box", 1000, 1000, 1), 0, 250, 501);
        modulus(new Run(sentence).due(0, "box", 1000, 1, 1), 0, 500, 2001);
        modulus(new Run(sentence).due(0, "box", 1, 1000, 1), 0, 500, 2001);
        modulus(new Run(sentence).due(0, "box", 1, 1, 1000), 0, 500, 2001);
        new Run(sentence).refusedWithEach(NO_SIZE, Check.RANGE, "box", HERE, 1, 1)
                .refusedWithEach(NO_SIZE, Check.RANGE, "box", 1, HERE, 1)
                .refusedWithEach(NO_SIZE, Check.RANGE, "box", 1, 1, HERE)
                .refusedWithEach(NO_SIZE, Check.RANGE, "box", HERE, HERE, HERE)
                .due(0, "box", 1, 1, 1);
    }

    private static void sizesOfCylinders() {
        String sentence = "CYLINDERS of a diameter d and a height h (1 .. 1,000 each)";
        modulus(new Run(sentence).due(0, "cylinder", 1, 1000), 0, 500, 2001);
        modulus(new Run(sentence).due(0, "cylinder", 1000, 1), 0, 250, 501);
        new Run(sentence).refusedWithEach(NO_SIZE, Check.RANGE, "cylinder", HERE, 1)
                .refusedWithEach(NO_SIZE, Check.RANGE, "cylinder", 1, HERE)
                .refusedWithEach(NO_SIZE, Check.RANGE, "cylinder", HERE, HERE)
                .due(0, "cylinder", 1, 1);
    }

    private static void refusedPartsTakeNoNumber() {
        new Run("What is refused changes nothing").due(0, "box", 2, 2, 2)
                .refused(Check.RANGE, "box", 2, 2, 0).refused(Check.RANGE, "cylinder", 2, 1001)
                .due(1, "cylinder", 3, 3)
                .refused(Check.RANGE, "cylinder", 0, 2).refused(Check.RANGE, "box", 1001, 2, 2)
                .due(2, "box", 4, 4, 4).due(0, "order", 0).due(1, "order", 1).due(2, "order", 2)
                .due(-1, "order", 3);
    }

    private static void leastAndGreatestModuli() {
        String sentence = "x y z over the sum of its cooling faces";
        modulus(new Run(sentence).due(0, "box", 1, 1, 1), 0, 1, 6);
        modulus(new Run(sentence).due(0, "box", 1000, 1000, 1000), 0, 500, 3);
        modulus(new Run("d h over (4 s h + e d)").due(0, "cylinder", 1, 1), 0, 1, 6);
        modulus(new Run("d h over (4 s h + e d)").due(0, "cylinder", 1000, 1000), 0, 500, 3);
        // All chilled: the least that a part of size 1 can have.
        Run run = new Run(sentence).due(0, "box", 1, 1, 1).due(1, "cylinder", 1, 1);
        for (int face = 0; face < 6; face++) {
            run.done("face", 0, face, 2);
        }
        for (int face = 0; face < 3; face++) {
            run.done("face", 1, face, 2);
        }
        modulus(run, 0, 1, 12);
        modulus(run, 1, 1, 12);
        // The greatest numbers before the fraction is brought down.
        run.due(2, "box", 999, 997, 991);
        for (int face = 0; face < 6; face++) {
            run.done("face", 2, face, 2);
        }
        modulus(run, 2, 987_038_973, 4 * (999 * 997 + 999 * 991 + 997 * 991));
    }

    private static void lowestTerms() {
        String sentence = "told in lowest terms: part 0 the upper, 1 the lower number (above 0)";
        modulus(new Run(sentence).due(0, "box", 6, 6, 6), 0, 1, 1);
        modulus(new Run(sentence).due(0, "box", 960, 960, 960), 0, 160, 1);
        modulus(new Run(sentence).due(0, "box", 7, 11, 13), 0, 1001, 622);
        modulus(new Run(sentence).due(0, "cylinder", 7, 3), 0, 21, 26);
        modulus(new Run(sentence).due(0, "cylinder", 2, 1), 0, 1, 4);
        modulus(new Run(sentence).due(0, "cylinder", 999, 998), 0, 498_501, 2_995);
    }

    private static void facesOfBoxes() {
        Run run = new Run("FACES 0, 1 (each y times z), 2, 3 (x times z), 4, 5 (x times y)")
                .due(0, "box", 2, 3, 5);
        run.done("face", 0, 0, 0);
        modulus(run, 0, 30, 47);
        run.done("face", 0, 1, 0);
        modulus(run, 0, 15, 16);
        run.done("face", 0, 2, 0);
        modulus(run, 0, 15, 11);
        run.done("face", 0, 3, 0);
        modulus(run, 0, 5, 2);
        run.done("face", 0, 4, 0);
        modulus(run, 0, 5, 1);
        run.done("face", 0, 0, 1).done("face", 0, 5, 0);
        modulus(run, 0, 2, 1);
        run.refusedWithEach(Run.beyond(0, 5), Check.INDEX, "face", 0, HERE, 1);
        modulus(run, 0, 2, 1);
    }

    private static void facesOfCylinders() {
        Run run = new Run("with faces 0 (the side), 1, 2 (the ends)").due(0, "cylinder", 3, 7);
        run.done("face", 0, 0, 0);
        modulus(run, 0, 7, 2);
        run.done("face", 0, 2, 0);
        modulus(run, 0, 7, 1);
        run.done("face", 0, 0, 1).done("face", 0, 1, 0);
        modulus(run, 0, 3, 4);
        run.refusedWithEach(Run.beyond(0, 2), Check.INDEX, "face", 0, HERE, 1)
                .refused(Check.INDEX, "face", 0, 4, 1).refused(Check.INDEX, "face", 0, 5, 1);
        modulus(run, 0, 3, 4);
        // The faces of a box before it are not those of the cylinder.
        new Run("no such face").due(0, "box", 1, 1, 1).due(1, "cylinder", 1, 1)
                .due(2, "box", 1, 1, 1).refused(Check.INDEX, "face", 1, 3, 0)
                .done("face", 0, 3, 0).done("face", 2, 5, 0);
    }

    private static void facesOfNoPart() {
        new Run("Index: no such part or face").due(0, "box", 1, 2, 3).due(1, "cylinder", 4, 5)
                .done("face", 0, 0, 0).done("face", 1, 0, 0)
                .refusedWithEach(Run.beyond(0, 1), Check.INDEX, "face", HERE, 0, 1)
                .refused(Check.INDEX, "face", 11, 0, 1).refused(Check.INDEX, "face", 12, 0, 1);
    }

    private static void waysOfAFace() {
        Run run = new Run("0 it does not cool, 1 it cools, 2 it is chilled. range: how")
                .due(0, "box", 1, 1, 1).due(1, "cylinder", 1, 1);
        for (int part = 0; part < 2; part++) {
            run.done("face", part, 1, 0);
            modulus(run, part, 1, 5);
            run.done("face", part, 1, 1);
            modulus(run, part, 1, 6);
            run.done("face", part, 1, 2);
            modulus(run, part, 1, 7);
            run.refusedWithEach(Run.beyond(0, 2), Check.RANGE, "face", part, 1, HERE);
            modulus(run, part, 1, 7);
        }
    }

    private static void coolsAtFirst() {
        Run run = new Run("A face COOLS (at first)").due(0, "box", 2, 3, 5)
                .due(1, "cylinder", 3, 7);
        modulus(run, 0, 15, 31);
        modulus(run, 1, 21, 34);
        for (int face = 0; face < 6; face++) {
            run.done("face", 0, face, 1);
        }
        for (int face = 0; face < 3; face++) {
            run.done("face", 1, face, 1);
        }
        modulus(run, 0, 15, 31);
        modulus(run, 1, 21, 34);
    }

    private static void chilledCountsTwice() {
        Run run = new Run("a CHILLED one that cools counts twice").due(0, "box", 2, 3, 5);
        int[] uppers = {30, 30, 5, 5, 15, 15};
        int[] lowers = {77, 77, 12, 12, 34, 34};
        for (int face = 0; face < 6; face++) {
            modulus(run.done("face", 0, face, 2), 0, uppers[face], lowers[face]);
            run.done("face", 0, face, 1);
        }
        modulus(run.done("face", 0, 0, 2), 0, 30, 77);
        modulus(run.done("face", 0, 0, 0), 0, 30, 47);
        modulus(run.done("face", 0, 0, 2), 0, 30, 77);
        modulus(run.done("face", 0, 0, 1), 0, 15, 31);
    }

    private static void aFaceSetToWhatItIs() {
        Run run = new Run("A face: 0, 1, 2 (no turn to be out of)").due(0, "cylinder", 1, 1);
        for (int how = 0; how <= 2; how++) {
            run.done("face", 0, 0, how).done("face", 0, 0, how);
            modulus(run, 0, 1, 2 + 4 * how);
        }
    }

    private static void howOftenSideAndEndsCount() {
        String sentence = "s how often the side counts (0, 1, 2), e how often the ends do (0 .. 4)";
        Run run = new Run(sentence).due(0, "cylinder", 1, 1);
        for (int side = 0; side <= 2; side++) {
            run.done("face", 0, 0, side);
            for (int top = 0; top <= 2; top++) {
                run.done("face", 0, 1, top);
                for (int bottom = 0; bottom <= 2; bottom++) {
                    run.done("face", 0, 2, bottom);
                    if (side + top + bottom > 0) {
                        modulus(run, 0, 1, 4 * side + top + bottom);
                    } else {
                        run.refused(Check.MEANING, "modulus", 0, 1);
                    }
                }
            }
        }
    }

    private static void boxWithoutACoolingFace() {
        Run run = new Run("Without a cooling face it can't be told").due(0, "box", 1, 1, 1);
        for (int face = 0; face < 6; face++) {
            modulus(run, 0, 1, 6 - face);
            run.done("face", 0, face, 0);
        }
        run.refused(Check.MEANING, "modulus", 0, 0).refused(Check.MEANING, "modulus", 0, 1);
        for (int face = 0; face < 6; face++) {
            modulus(run.done("face", 0, face, 1), 0, 1, 1);
            modulus(run.done("face", 0, face, 2), 0, 1, 2);
            run.done("face", 0, face, 0).refused(Check.MEANING, "modulus", 0, 1);
        }
    }

    private static void cylinderWithoutACoolingFace() {
        Run run = new Run("Without a cooling face it can't be told").due(0, "cylinder", 1, 1)
                .due(1, "cylinder", 1, 1);
        for (int face = 0; face < 3; face++) {
            run.done("face", 0, face, 0);
        }
        run.refused(Check.MEANING, "modulus", 0, 0).refused(Check.MEANING, "modulus", 0, 1);
        for (int face = 0; face < 3; face++) {
            modulus(run.done("face", 0, face, 1), 0, 1, face == 0 ? 4 : 1);
            run.done("face", 0, face, 0).refused(Check.MEANING, "modulus", 0, 0);
        }
        // The part beside it can be told all the time.
        modulus(run, 1, 1, 6);
    }

    private static void modulusOfNoPart() {
        Run run = new Run("A part's modulus. Index: no such part").due(0, "box", 1, 1, 1)
                .due(1, "box", 6, 6, 6);
        modulus(run, 0, 1, 6);
        modulus(run, 1, 1, 1);
        run.refusedWithEach(Run.beyond(0, 1), Check.INDEX, "modulus", HERE, 0)
                .refusedWithEach(Run.beyond(0, 1), Check.INDEX, "modulus", HERE, 1)
                .refused(Check.INDEX, "modulus", 11, 0).refused(Check.INDEX, "modulus", 12, 0);
    }

    private static void noSuchPartOfTheFraction() {
        Run run = new Run("or no such part of the fraction").due(0, "box", 1, 1, 1);
        modulus(run, 0, 1, 6);
        run.refusedWithEach(Run.beyond(0, 1), Check.INDEX, "modulus", 0, HERE);
    }
}
