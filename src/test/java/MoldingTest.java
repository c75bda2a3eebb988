/** Promises 17 to 19: molding, pack, packed. */
public final class MoldingTest {
    private static final int LEAST = Integer.MIN_VALUE;
    private static final int MOST = Integer.MAX_VALUE;

    public static void main(String[] args) {
        shelves(new FeedModulus());
        firstShelfThatServes(new FeedModulus());
        edges(new FeedModulus());
        newMolding(new FeedModulus());
        wrongSizes(new FeedModulus());
        fortyThings(new FeedModulus());
        fortyShelves(new FeedModulus());
        wrongThings(new FeedModulus());
        Check.end();
    }

    private static void pack(FeedModulus x, int w, int d, int... numberAndPlace) {
        int number = numberAndPlace[0];
        Check.due("pack(" + w + ", " + d + ")", number, () -> x.pack(w, d));
        Check.due("packed(" + number + ", 0)", numberAndPlace[1], () -> x.packed(number, 0));
        Check.due("packed(" + number + ", 1)", numberAndPlace[2], () -> x.packed(number, 1));
    }

    private static void tooMuch(FeedModulus x, int w, int d) {
        Check.refused("pack(" + w + ", " + d + ")", Check.MEANING, () -> x.pack(w, d));
    }

    private static void molding(FeedModulus x, int width, int depth) {
        Check.done("molding(" + width + ", " + depth + ")", () -> x.molding(width, depth));
    }

    private static void shelves(FeedModulus x) {
        pack(x, 400, 100, 0, 0, 0);
        pack(x, 500, 80, 1, 400, 0);
        pack(x, 200, 120, 2, 0, 100);
        pack(x, 100, 100, 3, 900, 0);
        pack(x, 800, 90, 4, 200, 100);
        pack(x, 1000, 700, 5, 0, 220);
        tooMuch(x, 1, 81);
        tooMuch(x, 1001, 1);
        pack(x, 1, 80, 6, 0, 920);
        pack(x, 999, 80, 7, 1, 920);
        tooMuch(x, 1, 1);
        Check.due("packed(0, 1)", 0, () -> x.packed(0, 1));
        Check.due("packed(5, 1)", 220, () -> x.packed(5, 1));
    }

    private static void firstShelfThatServes(FeedModulus x) {
        molding(x, 100, 100);
        pack(x, 60, 10, 0, 0, 0);
        pack(x, 50, 30, 1, 0, 10);
        pack(x, 60, 20, 2, 0, 40);
        // It would fit all three: the first one gets it, not the tightest.
        pack(x, 10, 10, 3, 60, 0);
        // Deep enough are the second and the third.
        pack(x, 10, 20, 4, 50, 10);
        // Wide enough is the third no more than the second, the first is too shallow.
        pack(x, 40, 11, 5, 60, 10);
        pack(x, 30, 5, 6, 70, 0);
        pack(x, 1, 1, 7, 60, 40);
        pack(x, 100, 40, 8, 0, 60);
        tooMuch(x, 40, 1);
        pack(x, 39, 20, 9, 61, 40);
        tooMuch(x, 1, 1);
    }

    private static void edges(FeedModulus x) {
        molding(x, 1, 1);
        tooMuch(x, 2, 1);
        tooMuch(x, 1, 2);
        pack(x, 1, 1, 0, 0, 0);
        tooMuch(x, 1, 1);
        molding(x, 2000, 2000);
        pack(x, 2000, 2000, 0, 0, 0);
        tooMuch(x, 1, 1);
        molding(x, 2000, 1);
        tooMuch(x, 1, 2);
        pack(x, 1999, 1, 0, 0, 0);
        tooMuch(x, 2, 1);
        pack(x, 1, 1, 1, 1999, 0);
        molding(x, 1, 2000);
        pack(x, 1, 1, 0, 0, 0);
        tooMuch(x, 1, 2000);
        pack(x, 1, 1999, 1, 0, 1);
    }

    private static void newMolding(FeedModulus x) {
        pack(x, 1000, 1000, 0, 0, 0);
        molding(x, 50, 60);
        Check.refused("packed(0, 0)", Check.INDEX, () -> x.packed(0, 0));
        tooMuch(x, 51, 60);
        tooMuch(x, 50, 61);
        pack(x, 20, 60, 0, 0, 0);
        pack(x, 30, 60, 1, 20, 0);
        Check.refused("molding(0, 1)", Check.RANGE, () -> x.molding(0, 1));
        tooMuch(x, 1, 1);
        Check.due("packed(1, 0)", 20, () -> x.packed(1, 0));
        molding(x, 50, 60);
        pack(x, 50, 60, 0, 0, 0);
        // The shelves of the box before are gone, however deep they were.
        molding(x, 50, 60);
        pack(x, 10, 5, 0, 0, 0);
        pack(x, 10, 6, 1, 0, 5);
        pack(x, 10, 7, 2, 0, 11);
        molding(x, 50, 10);
        pack(x, 10, 4, 0, 0, 0);
        pack(x, 10, 6, 1, 0, 4);
        tooMuch(x, 10, 7);
        FeedModulus y = new FeedModulus();
        Check.due("box(2, 2, 2)", 0, () -> y.box(2, 2, 2));
        Check.due("flowRow(1, 1)", 1, () -> y.flowRow(1, 1));
        molding(y, 1, 1);
        Check.due("order(0), parts stay", 0, () -> y.order(0));
        Check.due("flow(1), rows stay", 1, () -> y.flow(1));
    }

    private static void wrongSizes(FeedModulus x) {
        for (int wrong : new int[] {0, -1, 2001, LEAST, MOST}) {
            Check.refused("molding width " + wrong, Check.RANGE, () -> x.molding(wrong, 1));
            Check.refused("molding depth " + wrong, Check.RANGE, () -> x.molding(1, wrong));
            Check.refused("pack w " + wrong, Check.RANGE, () -> x.pack(wrong, 1));
            Check.refused("pack d " + wrong, Check.RANGE, () -> x.pack(1, wrong));
            Check.refused("range before meaning", Check.RANGE, () -> x.pack(1500, wrong));
        }
        tooMuch(x, 2000, 1);
        tooMuch(x, 1, 2000);
        pack(x, 1000, 1000, 0, 0, 0);
    }

    private static void fortyThings(FeedModulus x) {
        for (int i = 0; i < 40; i++) {
            pack(x, 1, 1, i, i, 0);
        }
        Check.refused("a 41st thing", Check.TURN, () -> x.pack(1, 1));
        Check.refused("turn before range", Check.TURN, () -> x.pack(0, 1));
        Check.refused("turn before meaning", Check.TURN, () -> x.pack(2000, 1));
        Check.refused("packed(40, 0)", Check.INDEX, () -> x.packed(40, 0));
        Check.due("packed(39, 0)", 39, () -> x.packed(39, 0));
        molding(x, 10, 10);
        pack(x, 1, 1, 0, 0, 0);
    }

    private static void fortyShelves(FeedModulus x) {
        molding(x, 3, 2000);
        for (int i = 0; i < 40; i++) {
            pack(x, 2, i + 1, i, 0, i * (i + 1) / 2);
        }
        Check.refused("a 41st thing", Check.TURN, () -> x.pack(1, 40));
    }

    private static void wrongThings(FeedModulus x) {
        pack(x, 10, 10, 0, 0, 0);
        for (int wrong : new int[] {-1, 1, 40, LEAST, MOST}) {
            Check.refused("packed(" + wrong + ", 0)", Check.INDEX, () -> x.packed(wrong, 0));
        }
        for (int wrong : new int[] {-1, 2, LEAST, MOST}) {
            Check.refused("packed(0, " + wrong + ")", Check.INDEX, () -> x.packed(0, wrong));
        }
    }
}
