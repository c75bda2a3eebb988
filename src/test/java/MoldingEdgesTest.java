/** The sentences on patterns, the molding box and its things that name an edge (16 to 19). */
public final class MoldingEdgesTest {
    private static final int HERE = Run.HERE;
    private static final int[] NO_MOLDING_SIZE = Run.beyond(1, 2000);

    public static void main(String[] args) {
        millimetres();
        shrinkages();
        roundedUp();
        sizesOfTheBox();
        theBoxAtFirst();
        aNewBoxIsEmpty();
        oldShelvesAreGone();
        aRefusedBoxLeavesTheOldOne();
        fortyThings();
        fortyShelves();
        sizesOfThings();
        theFirstShelf();
        asDeepAsTheFirstThing();
        deepEnough();
        soMuchWidthLeft();
        theFirstShelfThatServes();
        fitsIntoTheDepthLeft();
        widerThanTheBox();
        aRefusedThingTakesNothing();
        packedNoSuchThing();
        packedNoSuchWhat();
        Check.end();
    }

    /** Packs and asks for both places. */
    private static Run pack(Run run, int thing, int w, int d, int alongWidth, int alongDepth) {
        return run.due(thing, "pack", w, d).due(alongWidth, "packed", thing, 0)
                .due(alongDepth, "packed", thing, 1);
    }

    private static Run box(String sentence, int width, int depth) {
        return new Run(sentence).done("molding", width, depth);
    }

    private static void millimetres() {
        new Run("so many (1 .. 1,000)").due(1, "pattern", 1, 0).due(1000, "pattern", 1000, 0)
                .refusedWithEach(Run.beyond(1, 1000), Check.RANGE, "pattern", HERE, 0)
                .refusedWithEach(Run.beyond(1, 1000), Check.RANGE, "pattern", HERE, 100);
    }

    private static void shrinkages() {
        new Run("a shrinkage (0 .. 100 thousandths)").due(10, "pattern", 10, 0)
                .due(11, "pattern", 10, 100)
                .refusedWithEach(Run.beyond(0, 100), Check.RANGE, "pattern", 1, HERE)
                .refusedWithEach(Run.beyond(0, 100), Check.RANGE, "pattern", 1000, HERE);
    }

    private static void roundedUp() {
        new Run("over 1,000, rounded up")
                .due(1, "pattern", 1, 0).due(2, "pattern", 1, 1).due(2, "pattern", 1, 100)
                .due(11, "pattern", 10, 100).due(13, "pattern", 11, 100)
                .due(101, "pattern", 100, 10).due(102, "pattern", 100, 11)
                .due(101, "pattern", 100, 9).due(1000, "pattern", 999, 1)
                .due(1001, "pattern", 1000, 1).due(1100, "pattern", 1000, 100)
                .due(1099, "pattern", 999, 100);
        // All that can be asked, in runs that stay within the promised calls.
        for (int millimetres = 1; millimetres <= 1000; millimetres++) {
            Run run = new Run("times (1,000 and it), over 1,000, rounded up");
            for (int shrinkage = 0; shrinkage <= 100; shrinkage++) {
                int thousandths = millimetres * 1000 + millimetres * shrinkage;
                int due = thousandths / 1000 + (thousandths % 1000 == 0 ? 0 : 1);
                run.due(due, "pattern", millimetres, shrinkage);
            }
        }
    }

    private static void sizesOfTheBox() {
        String sentence = "A MOLDING BOX has a width and a depth (1 .. 2,000)";
        pack(box(sentence, 1, 1), 0, 1, 1, 0, 0).refused(Check.MEANING, "pack", 1, 1);
        pack(box(sentence, 2000, 2000), 0, 2000, 2000, 0, 0).refused(Check.MEANING, "pack", 1, 1);
        pack(box(sentence, 1, 2000), 0, 1, 2000, 0, 0).refused(Check.MEANING, "pack", 1, 1);
        pack(box(sentence, 2000, 1), 0, 2000, 1, 0, 0).refused(Check.MEANING, "pack", 1, 1);
        new Run(sentence).refusedWithEach(NO_MOLDING_SIZE, Check.RANGE, "molding", HERE, 1)
                .refusedWithEach(NO_MOLDING_SIZE, Check.RANGE, "molding", 1, HERE)
                .refusedWithEach(NO_MOLDING_SIZE, Check.RANGE, "molding", HERE, HERE);
    }

    private static void theBoxAtFirst() {
        String sentence = "1,000 and 1,000 at first";
        new Run(sentence).refused(Check.MEANING, "pack", 1001, 1)
                .refused(Check.MEANING, "pack", 1, 1001)
                .refused(Check.MEANING, "pack", 2000, 2000).due(0, "pack", 1000, 1000)
                .refused(Check.MEANING, "pack", 1, 1);
    }

    private static void aNewBoxIsEmpty() {
        Run run = new Run("The molding box, empty");
        pack(pack(run, 0, 400, 600, 0, 0), 1, 600, 400, 400, 0).done("molding", 10, 20)
                .refused(Check.INDEX, "packed", 0, 0).refused(Check.INDEX, "packed", 1, 1)
                .refused(Check.MEANING, "pack", 11, 1).refused(Check.MEANING, "pack", 1, 21);
        pack(pack(run, 0, 10, 5, 0, 0), 1, 10, 15, 0, 5).refused(Check.MEANING, "pack", 1, 1);
        // The same sizes again empty it too.
        pack(run.done("molding", 10, 20).refused(Check.INDEX, "packed", 0, 0), 0, 10, 20, 0, 0);
    }

    /** The old shelves have room left, but they are gone with their box. */
    private static void oldShelvesAreGone() {
        Run run = box("The molding box, empty", 100, 100);
        pack(pack(run, 0, 10, 60, 0, 0), 1, 95, 40, 0, 60).done("molding", 100, 50)
                .refused(Check.MEANING, "pack", 10, 51).refused(Check.MEANING, "pack", 10, 60);
        pack(run, 0, 20, 15, 0, 0).refused(Check.MEANING, "pack", 5, 40);
        pack(run, 1, 20, 20, 0, 15);
        pack(run, 2, 20, 15, 20, 0);
    }

    private static void aRefusedBoxLeavesTheOldOne() {
        pack(box("Range: it is not so", 100, 50), 0, 60, 20, 0, 0)
                .refused(Check.RANGE, "molding", 0, 50).refused(Check.RANGE, "molding", 100, 2001)
                .refused(Check.MEANING, "pack", 101, 1).refused(Check.MEANING, "pack", 100, 31)
                .due(1, "pack", 40, 20).due(60, "packed", 1, 0).due(0, "packed", 1, 1)
                .due(2, "pack", 100, 30).due(20, "packed", 2, 1);
    }

    private static void fortyThings() {
        Run run = new Run("Turn: there are 40");
        for (int thing = 0; thing < 40; thing++) {
            pack(run, thing, 2, 3, 2 * thing, 0);
        }
        run.refused(Check.TURN, "pack", 1, 1).refused(Check.TURN, "pack", 2, 3)
                .refused(Check.TURN, "pack", 1000, 997).due(78, "packed", 39, 0)
                .refused(Check.INDEX, "packed", 40, 0).done("molding", 1000, 1000);
        for (int thing = 0; thing < 40; thing++) {
            run.due(thing, "pack", 1, 1);
        }
        run.refused(Check.TURN, "pack", 1, 1);
    }

    private static void fortyShelves() {
        Run run = box("SHELVES lie one behind the other", 2000, 2000);
        for (int thing = 0; thing < 40; thing++) {
            pack(run, thing, 2000, 50, 0, 50 * thing);
        }
        run.refused(Check.TURN, "pack", 1, 1).due(1950, "packed", 39, 1);
    }

    private static void sizesOfThings() {
        String sentence = "range: its sizes (1 .. 2,000)";
        box(sentence, 2000, 2000).refusedWithEach(NO_MOLDING_SIZE, Check.RANGE, "pack", HERE, 1)
                .refusedWithEach(NO_MOLDING_SIZE, Check.RANGE, "pack", 1, HERE)
                .refusedWithEach(NO_MOLDING_SIZE, Check.RANGE, "pack", HERE, HERE)
                .due(0, "pack", 1, 1).due(1, "pack", 1, 1999)
                .refusedWithEach(NO_MOLDING_SIZE, Check.RANGE, "pack", HERE, 1)
                .refusedWithEach(NO_MOLDING_SIZE, Check.RANGE, "pack", 1, HERE);
        new Run(sentence).refused(Check.MEANING, "pack", 2000, 1)
                .refused(Check.MEANING, "pack", 1, 2000).refused(Check.RANGE, "pack", 2001, 1)
                .refused(Check.RANGE, "pack", 1, 2001).due(0, "pack", 1, 1);
    }

    private static void theFirstShelf() {
        Run run = box("from depth 0 on", 100, 100);
        pack(run, 0, 40, 30, 0, 0);
        pack(run, 1, 61, 30, 0, 30);
        pack(run, 2, 100, 40, 0, 60);
    }

    private static void asDeepAsTheFirstThing() {
        Run run = box("each as deep as the first thing on it", 100, 100);
        pack(run, 0, 10, 20, 0, 0);
        pack(run, 1, 10, 5, 10, 0);
        // As deep as the first one, behind a shallower one; the next shelf begins at 20, not at 5.
        pack(run, 2, 10, 20, 20, 0);
        pack(run, 3, 10, 21, 0, 20);
        pack(run, 4, 100, 59, 0, 41);
    }

    private static void deepEnough() {
        Run run = box("the first shelf that is deep enough for it", 100, 100);
        pack(run, 0, 10, 20, 0, 0);
        pack(run, 1, 10, 19, 10, 0);
        pack(run, 2, 10, 20, 20, 0);
        pack(run, 3, 10, 21, 0, 20);
        pack(run, 4, 10, 22, 0, 41);
        run.refused(Check.MEANING, "pack", 1, 38);
        pack(run, 5, 10, 21, 10, 20);
        pack(run, 6, 10, 22, 10, 41);
        pack(run, 7, 100, 37, 0, 63);
    }

    private static void soMuchWidthLeft() {
        Run run = box("and has so much width left, behind what is there", 100, 100);
        pack(run, 0, 60, 20, 0, 0);
        pack(run, 1, 41, 20, 0, 20);
        pack(run, 2, 40, 20, 60, 0);
        pack(run, 3, 1, 20, 41, 20);
        pack(run, 4, 59, 20, 0, 40);
        pack(run, 5, 58, 20, 42, 20);
        pack(run, 6, 1, 1, 59, 40);
    }

    private static void theFirstShelfThatServes() {
        Run run = box("onto the first shelf", 100, 100);
        pack(run, 0, 90, 10, 0, 0);
        pack(run, 1, 50, 30, 0, 10);
        pack(run, 2, 60, 20, 0, 40);
        pack(run, 3, 10, 10, 90, 0);
        pack(run, 4, 10, 10, 50, 10);
        pack(run, 5, 40, 20, 60, 10);
        pack(run, 6, 40, 20, 60, 40);
        pack(run, 7, 1, 1, 0, 60);
    }

    private static void fitsIntoTheDepthLeft() {
        String sentence = "else onto a new one, when that fits into the depth left";
        Run run = box(sentence, 100, 100);
        pack(run, 0, 100, 60, 0, 0).refused(Check.MEANING, "pack", 1, 41)
                .refused(Check.MEANING, "pack", 100, 60).refused(Check.MEANING, "pack", 1, 2000);
        pack(run, 1, 1, 40, 0, 60).refused(Check.MEANING, "pack", 100, 1);
        pack(run, 2, 99, 40, 1, 60).refused(Check.MEANING, "pack", 1, 1);
        // Too deep for what is left, but an older shelf has room.
        pack(pack(box(sentence, 100, 100), 0, 50, 90, 0, 0), 1, 50, 11, 50, 0)
                .refused(Check.MEANING, "pack", 1, 11).due(2, "pack", 1, 10);
    }

    private static void widerThanTheBox() {
        String sentence = "meaning: it does not fit";
        box(sentence, 100, 100).refused(Check.MEANING, "pack", 101, 1)
                .refused(Check.MEANING, "pack", 2000, 2000).refused(Check.MEANING, "pack", 1, 101)
                .due(0, "pack", 100, 1).refused(Check.MEANING, "pack", 101, 1)
                .due(1, "pack", 100, 99);
    }

    private static void aRefusedThingTakesNothing() {
        Run run = box("What is refused changes nothing", 100, 100);
        run.refused(Check.MEANING, "pack", 101, 100).refused(Check.MEANING, "pack", 100, 101);
        pack(run, 0, 99, 99, 0, 0).refused(Check.MEANING, "pack", 2, 2)
                .refused(Check.RANGE, "pack", 1, 0);
        pack(run, 1, 1, 99, 99, 0).refused(Check.MEANING, "pack", 1, 2);
        pack(run, 2, 100, 1, 0, 99).refused(Check.MEANING, "pack", 1, 1)
                .due(99, "packed", 1, 0).due(99, "packed", 2, 1)
                .refused(Check.INDEX, "packed", 3, 0);
    }

    private static void packedNoSuchThing() {
        Run run = box("Index: no such thing", 100, 100);
        run.refused(Check.INDEX, "packed", 0, 0).refused(Check.INDEX, "packed", 0, 1);
        pack(pack(run, 0, 10, 10, 0, 0), 1, 20, 10, 10, 0)
                .refusedWithEach(Run.beyond(0, 1), Check.INDEX, "packed", HERE, 0)
                .refusedWithEach(Run.beyond(0, 1), Check.INDEX, "packed", HERE, 1)
                .refused(Check.INDEX, "packed", 39, 0).refused(Check.INDEX, "packed", 40, 0);
    }

    private static void packedNoSuchWhat() {
        Run run = box("or what", 100, 100);
        pack(pack(run, 0, 100, 10, 0, 0), 1, 20, 10, 0, 10)
                .refusedWithEach(Run.beyond(0, 1), Check.INDEX, "packed", 1, HERE)
                .refusedWithEach(Run.beyond(0, 1), Check.INDEX, "packed", 0, HERE);
    }
}
