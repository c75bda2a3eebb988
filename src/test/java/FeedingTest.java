/** Promises 6 to 12: join, order, riserRow, riser, cutOff, feeder, unfed. */
public final class FeedingTest {
    private static final int LEAST = Integer.MIN_VALUE;
    private static final int MOST = Integer.MAX_VALUE;

    public static void main(String[] args) {
        joining(new FeedModulus());
        ordering(new FeedModulus());
        twelveParts(new FeedModulus());
        riserRows(new FeedModulus());
        sixFifths(new FeedModulus());
        firstGreatEnough(new FeedModulus());
        keepsItsRiser(new FeedModulus());
        cuttingOff(new FeedModulus());
        feeding(new FeedModulus());
        feedingByOneOfTheSame(new FeedModulus());
        riserOfACoveredPart(new FeedModulus());
        coveredPartsFeedNone(new FeedModulus());
        nothingFeeds(new FeedModulus());
        Check.end();
    }

    private static FeedModulus cubes(FeedModulus x, int... sizes) {
        for (int size : sizes) {
            Check.done("box(" + size + " ..)", () -> x.box(size, size, size));
        }
        return x;
    }

    private static void cover(FeedModulus x, int part) {
        for (int face = 0; face < 6; face++) {
            int covered = face;
            Check.done("face(" + part + ", " + face + ", 0)", () -> x.face(part, covered, 0));
        }
    }

    private static void join(FeedModulus x, int a, int b) {
        Check.done("join(" + a + ", " + b + ", true)", () -> x.join(a, b, true));
    }

    private static void feeder(FeedModulus x, int part, int want) {
        Check.due("feeder(" + part + ")", want, () -> x.feeder(part));
    }

    private static void order(FeedModulus x, int... want) {
        for (int i = 0; i < want.length; i++) {
            int asked = i;
            Check.due("order(" + i + ")", want[i], () -> x.order(asked));
        }
        Check.due("order beyond", -1, () -> x.order(want.length));
        Check.due("order far beyond", -1, () -> x.order(MOST));
    }

    private static void unfed(FeedModulus x, int... want) {
        for (int i = 0; i < want.length; i++) {
            int asked = i;
            Check.due("unfed(" + i + ")", want[i], () -> x.unfed(asked));
        }
        Check.due("unfed beyond", -1, () -> x.unfed(want.length));
        Check.due("unfed far beyond", -1, () -> x.unfed(MOST));
    }

    private static void joining(FeedModulus x) {
        cubes(x, 10, 20, 30);
        Check.refused("not joined yet", Check.TURN, () -> x.join(0, 1, false));
        join(x, 0, 1);
        feeder(x, 0, 1);
        Check.refused("joined", Check.TURN, () -> x.join(0, 1, true));
        Check.refused("joined, turned", Check.TURN, () -> x.join(1, 0, true));
        Check.refused("another pair", Check.TURN, () -> x.join(1, 2, false));
        Check.done("parted, turned", () -> x.join(1, 0, false));
        feeder(x, 0, -1);
        Check.refused("parted", Check.TURN, () -> x.join(0, 1, false));
        Check.done("joined again, turned", () -> x.join(1, 0, true));
        feeder(x, 0, 1);
        Check.refused("joined again", Check.TURN, () -> x.join(0, 1, true));
        for (int wrong : new int[] {-1, 3, LEAST, MOST}) {
            Check.refused("join a " + wrong, Check.INDEX, () -> x.join(wrong, 0, true));
            Check.refused("join b " + wrong, Check.INDEX, () -> x.join(0, wrong, true));
            Check.refused("part b " + wrong, Check.INDEX, () -> x.join(0, wrong, false));
            Check.refused("join both " + wrong, Check.INDEX, () -> x.join(wrong, wrong, true));
        }
        Check.refused("join(1, 1, true)", Check.INDEX, () -> x.join(1, 1, true));
        Check.refused("join(1, 1, false)", Check.INDEX, () -> x.join(1, 1, false));
    }

    private static void ordering(FeedModulus x) {
        order(x);
        cubes(x, 30, 10, 20, 10, 30);
        order(x, 1, 3, 2, 0, 4);
        // A cylinder of 30 by 30 has the modulus of a cube of 30: 5.
        Check.due("cylinder(30, 30)", 5, () -> x.cylinder(30, 30));
        order(x, 1, 3, 2, 0, 4, 5);
        cover(x, 3);
        order(x, 1, 2, 0, 4, 5);
        Check.done("chill", () -> x.face(4, 0, 2));
        order(x, 1, 2, 4, 0, 5);
        Check.done("cool one face", () -> x.face(3, 0, 1));
        order(x, 1, 2, 4, 0, 5, 3);
        Check.refused("order(-1)", Check.INDEX, () -> x.order(-1));
        Check.refused("order(least)", Check.INDEX, () -> x.order(LEAST));
    }

    private static void twelveParts(FeedModulus x) {
        cubes(x, 12, 11, 10, 9, 8, 7, 6, 5, 4, 3, 2, 1);
        order(x, 11, 10, 9, 8, 7, 6, 5, 4, 3, 2, 1, 0);
        unfed(x, 0, 1, 2, 3, 4, 5, 6, 7, 8, 9, 10, 11);
        for (int part = 1; part < 12; part++) {
            join(x, part, part - 1);
            feeder(x, part, part - 1);
        }
        unfed(x, 0);
        join(x, 11, 0);
        feeder(x, 11, 0);
        feeder(x, 0, -1);
        // Nearly the same moduli, which rounded numbers would not tell apart.
        FeedModulus y = new FeedModulus();
        y.box(1000, 1000, 1000);
        y.box(1000, 1000, 999);
        y.box(999, 1000, 1000);
        y.box(1000, 999, 999);
        order(y, 3, 1, 2, 0);
    }

    private static void riserRows(FeedModulus x) {
        for (int wrong : new int[] {0, -1, 1001, LEAST, MOST}) {
            Check.refused("riser d " + wrong, Check.RANGE, () -> x.riserRow(wrong, 1));
            Check.refused("riser h " + wrong, Check.RANGE, () -> x.riserRow(1, wrong));
        }
        Check.due("riserRow(1, 1000)", 1, () -> x.riserRow(1, 1000));
        Check.due("riserRow(1000, 1)", 2, () -> x.riserRow(1000, 1));
        for (int many = 3; many <= 8; many++) {
            Check.due("riser row " + many, many, () -> x.riserRow(1, 1));
        }
        Check.refused("a 9th row", Check.TURN, () -> x.riserRow(1, 1));
        Check.refused("turn before range", Check.TURN, () -> x.riserRow(0, 1));
    }

    private static void sixFifths(FeedModulus x) {
        // A riser of 100 by 100 has the modulus 20, which is six fifths of a cube's of 100.
        Check.due("riserRow(100, 100)", 1, () -> x.riserRow(100, 100));
        cubes(x, 100, 101, 99);
        Check.due("riser(0), just six fifths", 0, () -> x.riser(0));
        Check.refused("riser(1), a bit too great", Check.MEANING, () -> x.riser(1));
        Check.due("riser(2)", 0, () -> x.riser(2));
        feeder(x, 0, 100);
        feeder(x, 1, -1);
        // Of 25 by 10 the riser has 250 / 65 = 50 / 13, of 10 by 25 it has 250 / 110 = 25 / 11.
        FeedModulus y = new FeedModulus();
        Check.due("riserRow(10, 25)", 1, () -> y.riserRow(10, 25));
        Check.due("riserRow(25, 10)", 2, () -> y.riserRow(25, 10));
        cubes(y, 11, 12, 19, 20);
        Check.due("riser(0)", 0, () -> y.riser(0));
        Check.due("riser(1)", 1, () -> y.riser(1));
        Check.due("riser(2)", 1, () -> y.riser(2));
        Check.refused("riser(3)", Check.MEANING, () -> y.riser(3));
    }

    private static void firstGreatEnough(FeedModulus x) {
        cubes(x, 100);
        Check.refused("riser without rows", Check.MEANING, () -> x.riser(0));
        Check.due("riserRow(40, 40)", 1, () -> x.riserRow(40, 40));
        Check.refused("riser, too small", Check.MEANING, () -> x.riser(0));
        feeder(x, 0, -1);
        Check.due("riserRow(300, 300)", 2, () -> x.riserRow(300, 300));
        Check.due("riserRow(100, 100)", 3, () -> x.riserRow(100, 100));
        Check.due("the first by numbers, not the least", 1, () -> x.riser(0));
        feeder(x, 0, 101);
        for (int wrong : new int[] {-1, 1, LEAST, MOST}) {
            Check.refused("riser(" + wrong + ")", Check.INDEX, () -> x.riser(wrong));
        }
        for (int many = 4; many <= 7; many++) {
            Check.due("riser row " + many, many, () -> x.riserRow(1, 1));
        }
        Check.due("the last row", 8, () -> x.riserRow(1000, 1000));
        cubes(x, 600);
        Check.due("the last row is the first great enough", 7, () -> x.riser(1));
        feeder(x, 1, 107);
    }

    private static void keepsItsRiser(FeedModulus x) {
        cubes(x, 100, 10);
        Check.due("riserRow(20, 20)", 1, () -> x.riserRow(20, 20));
        Check.due("riserRow(200, 200)", 2, () -> x.riserRow(200, 200));
        Check.due("riser(0)", 1, () -> x.riser(0));
        Check.due("riser(1)", 0, () -> x.riser(1));
        for (int face = 0; face < 5; face++) {
            int covered = face;
            Check.done("cover a face", () -> x.face(0, covered, 0));
        }
        Check.refused("now no row is great enough", Check.MEANING, () -> x.riser(0));
        feeder(x, 0, 101);
        for (int face = 0; face < 3; face++) {
            int covered = face;
            Check.done("cover a face", () -> x.face(1, covered, 0));
        }
        Check.due("the row is just six fifths", 0, () -> x.riser(1));
        Check.done("cover one more", () -> x.face(1, 3, 0));
        feeder(x, 1, 100);
        Check.due("in place of the one it has", 1, () -> x.riser(1));
        feeder(x, 1, 101);
        Check.done("cool again", () -> x.face(1, 0, 2));
        feeder(x, 1, 101);
    }

    private static void cuttingOff(FeedModulus x) {
        cubes(x, 10, 20);
        join(x, 0, 1);
        Check.due("riserRow(100, 100)", 1, () -> x.riserRow(100, 100));
        Check.refused("no riser yet", Check.TURN, () -> x.cutOff(0));
        Check.due("riser(0)", 0, () -> x.riser(0));
        Check.refused("the other has none", Check.TURN, () -> x.cutOff(1));
        feeder(x, 0, 100);
        Check.done("cutOff(0)", () -> x.cutOff(0));
        feeder(x, 0, 1);
        Check.refused("no riser any more", Check.TURN, () -> x.cutOff(0));
        for (int wrong : new int[] {-1, 2, LEAST, MOST}) {
            Check.refused("cutOff(" + wrong + ")", Check.INDEX, () -> x.cutOff(wrong));
        }
    }

    private static void feeding(FeedModulus x) {
        cubes(x, 10, 20, 40, 30, 50);
        feeder(x, 0, -1);
        join(x, 0, 1);
        feeder(x, 0, 1);
        feeder(x, 1, -1);
        join(x, 3, 0);
        feeder(x, 0, 3);
        join(x, 0, 2);
        feeder(x, 0, 2);
        join(x, 2, 1);
        feeder(x, 1, 2);
        feeder(x, 2, -1);
        feeder(x, 4, -1);
        join(x, 4, 2);
        feeder(x, 2, 4);
        feeder(x, 0, 2);
        for (int wrong : new int[] {-1, 5, LEAST, MOST}) {
            Check.refused("feeder(" + wrong + ")", Check.INDEX, () -> x.feeder(wrong));
        }
    }

    private static void feedingByOneOfTheSame(FeedModulus x) {
        cubes(x, 10, 10, 30, 30, 20);
        join(x, 0, 1);
        feeder(x, 0, -1);
        feeder(x, 1, -1);
        join(x, 0, 4);
        join(x, 0, 3);
        feeder(x, 0, 3);
        join(x, 0, 2);
        feeder(x, 0, 2);
        join(x, 2, 3);
        feeder(x, 2, -1);
        feeder(x, 3, -1);
    }

    private static void riserOfACoveredPart(FeedModulus x) {
        cubes(x, 10, 20);
        join(x, 0, 1);
        Check.due("riserRow(100, 100)", 1, () -> x.riserRow(100, 100));
        Check.due("riser(0)", 0, () -> x.riser(0));
        cover(x, 0);
        feeder(x, 0, -2);
        Check.refused("riser of a covered part", Check.MEANING, () -> x.riser(0));
        Check.done("cool", () -> x.face(0, 3, 1));
        feeder(x, 0, 100);
        cover(x, 0);
        Check.done("cut off while covered", () -> x.cutOff(0));
        Check.done("cool", () -> x.face(0, 3, 2));
        // 1,000 over 200 is 5, more than the 20 / 6 of its neighbour.
        feeder(x, 0, -1);
        feeder(x, 1, 0);
    }

    private static void coveredPartsFeedNone(FeedModulus x) {
        cubes(x, 10, 20, 30);
        join(x, 0, 1);
        join(x, 0, 2);
        cover(x, 2);
        feeder(x, 0, 1);
        feeder(x, 2, -2);
        cover(x, 1);
        feeder(x, 0, -1);
        cover(x, 0);
        feeder(x, 0, -2);
        unfed(x);
        order(x);
    }

    private static void nothingFeeds(FeedModulus x) {
        unfed(x);
        cubes(x, 10, 20, 30, 40, 50);
        unfed(x, 0, 1, 2, 3, 4);
        join(x, 0, 4);
        unfed(x, 1, 2, 3, 4);
        cover(x, 2);
        unfed(x, 1, 3, 4);
        Check.due("riserRow(1000, 1000)", 1, () -> x.riserRow(1000, 1000));
        Check.due("riser(3)", 0, () -> x.riser(3));
        unfed(x, 1, 4);
        Check.due("riser(4)", 0, () -> x.riser(4));
        unfed(x, 1);
        Check.done("cutOff(3)", () -> x.cutOff(3));
        unfed(x, 1, 3);
        Check.refused("unfed(-1)", Check.INDEX, () -> x.unfed(-1));
        Check.refused("unfed(least)", Check.INDEX, () -> x.unfed(LEAST));
    }
}
