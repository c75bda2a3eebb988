/** Promises 2 to 5: box, cylinder, face, modulus. */
public final class PartsTest {
    private static final int LEAST = Integer.MIN_VALUE;
    private static final int MOST = Integer.MAX_VALUE;

    public static void main(String[] args) {
        boxModuli(new FeedModulus());
        cylinderModuli(new FeedModulus());
        sizes(new FeedModulus());
        twelveParts(new FeedModulus());
        boxFaces(new FeedModulus());
        cylinderFaces(new FeedModulus());
        withoutCooling(new FeedModulus());
        wrongFaces(new FeedModulus());
        wrongModuli(new FeedModulus());
        Check.end();
    }

    static void modulus(FeedModulus x, int part, long upper, long lower) {
        Check.due("modulus(" + part + ", 0)", upper, () -> x.modulus(part, 0));
        Check.due("modulus(" + part + ", 1)", lower, () -> x.modulus(part, 1));
    }

    private static void boxModuli(FeedModulus x) {
        Check.due("box(100, 50, 20)", 0, () -> x.box(100, 50, 20));
        modulus(x, 0, 25, 4);
        Check.due("box(1, 1, 1)", 1, () -> x.box(1, 1, 1));
        modulus(x, 1, 1, 6);
        Check.due("box(1000, 1000, 1000)", 2, () -> x.box(1000, 1000, 1000));
        modulus(x, 2, 500, 3);
        Check.due("box(7, 11, 13)", 3, () -> x.box(7, 11, 13));
        modulus(x, 3, 1001, 622);
        Check.due("box(997, 991, 983)", 4, () -> x.box(997, 991, 983));
        modulus(x, 4, 971230541L, 2L * (997 * 991 + 997 * 983 + 991 * 983));
    }

    private static void cylinderModuli(FeedModulus x) {
        Check.due("cylinder(60, 80)", 0, () -> x.cylinder(60, 80));
        modulus(x, 0, 120, 11);
        Check.due("cylinder(1, 1)", 1, () -> x.cylinder(1, 1));
        modulus(x, 1, 1, 6);
        Check.due("cylinder(1000, 1000)", 2, () -> x.cylinder(1000, 1000));
        modulus(x, 2, 500, 3);
        Check.due("cylinder(7, 3)", 3, () -> x.cylinder(7, 3));
        modulus(x, 3, 21, 26);
        Check.due("box after cylinders", 4, () -> x.box(2, 3, 4));
        modulus(x, 4, 6, 13);
    }

    private static void sizes(FeedModulus x) {
        for (int size : new int[] {0, -1, 1001, LEAST, MOST}) {
            Check.refused("box x " + size, Check.RANGE, () -> x.box(size, 1, 1));
            Check.refused("box y " + size, Check.RANGE, () -> x.box(1, size, 1));
            Check.refused("box z " + size, Check.RANGE, () -> x.box(1, 1, size));
            Check.refused("cylinder d " + size, Check.RANGE, () -> x.cylinder(size, 1));
            Check.refused("cylinder h " + size, Check.RANGE, () -> x.cylinder(1, size));
        }
        Check.due("order after refusals", -1, () -> x.order(0));
        Check.due("box(1000, 1, 1)", 0, () -> x.box(1000, 1, 1));
        Check.due("cylinder(1000, 1)", 1, () -> x.cylinder(1000, 1));
        Check.due("cylinder(1, 1000)", 2, () -> x.cylinder(1, 1000));
    }

    private static void twelveParts(FeedModulus x) {
        for (int i = 0; i < 12; i++) {
            int size = i + 1;
            if (i % 2 == 0) {
                Check.due("box " + i, i, () -> x.box(size, size, size));
            } else {
                Check.due("cylinder " + i, i, () -> x.cylinder(size, size));
            }
        }
        Check.refused("a 13th box", Check.TURN, () -> x.box(1, 1, 1));
        Check.refused("a 13th cylinder", Check.TURN, () -> x.cylinder(1, 1));
        Check.refused("turn before range, box", Check.TURN, () -> x.box(0, 1, 1));
        Check.refused("turn before range, cylinder", Check.TURN, () -> x.cylinder(1, 1001));
        for (int i = 0; i < 12; i++) {
            long upper = (i + 1) % 6 == 0 ? (i + 1) / 6 : (i + 1) % 3 == 0 ? (i + 1) / 3
                    : (i + 1) % 2 == 0 ? (i + 1) / 2 : i + 1;
            modulus(x, i, upper, 6 * upper / (i + 1));
        }
        Check.refused("modulus(12, 0)", Check.INDEX, () -> x.modulus(12, 0));
    }

    private static void boxFaces(FeedModulus x) {
        int[] areas = {5 * 7, 5 * 7, 3 * 7, 3 * 7, 3 * 5, 3 * 5};
        Check.due("box(1, 1, 1)", 0, () -> x.box(1, 1, 1));
        Check.due("box(3, 5, 7)", 1, () -> x.box(3, 5, 7));
        int all = 142;
        for (int face = 0; face < 6; face++) {
            for (int how : new int[] {0, 2, 2, 0, 1, 1}) {
                setFace(x, 1, face, how);
                fraction(x, 1, 105, all + areas[face] * (how - 1));
            }
        }
        for (int face = 0; face < 6; face++) {
            setFace(x, 1, face, 2);
        }
        fraction(x, 1, 105, 2 * all);
        modulus(x, 0, 1, 6);
    }

    private static void cylinderFaces(FeedModulus x) {
        Check.due("cylinder(9, 7)", 0, () -> x.cylinder(9, 7));
        for (int side = 0; side <= 2; side++) {
            for (int top = 0; top <= 2; top++) {
                for (int bottom = 0; bottom <= 2; bottom++) {
                    setFace(x, 0, 0, side);
                    setFace(x, 0, 1, top);
                    setFace(x, 0, 2, bottom);
                    if (side + top + bottom > 0) {
                        fraction(x, 0, 63, 28 * side + 9 * (top + bottom));
                    }
                }
            }
        }
    }

    private static void withoutCooling(FeedModulus x) {
        Check.due("cylinder(9, 7)", 0, () -> x.cylinder(9, 7));
        Check.due("box(3, 5, 7)", 1, () -> x.box(3, 5, 7));
        for (int face = 0; face < 3; face++) {
            setFace(x, 0, face, 0);
        }
        for (int face = 0; face < 6; face++) {
            modulus(x, 1, face == 5 ? 7 : x.modulus(1, 0), face == 5 ? 1 : x.modulus(1, 1));
            setFace(x, 1, face, 0);
        }
        for (int part = 0; part < 2; part++) {
            int asked = part;
            Check.refused("upper without cooling", Check.MEANING, () -> x.modulus(asked, 0));
            Check.refused("lower without cooling", Check.MEANING, () -> x.modulus(asked, 1));
            Check.refused("index before meaning", Check.INDEX, () -> x.modulus(asked, 2));
        }
        setFace(x, 0, 2, 2);
        modulus(x, 0, 7, 2);
        Check.due("cylinder(1, 1000)", 2, () -> x.cylinder(1, 1000));
        setFace(x, 2, 0, 0);
        setFace(x, 2, 1, 0);
        modulus(x, 2, 1000, 1);
        setFace(x, 1, 0, 2);
        modulus(x, 1, 3, 2);
    }

    private static void wrongFaces(FeedModulus x) {
        Check.due("box(2, 2, 2)", 0, () -> x.box(2, 2, 2));
        Check.due("cylinder(2, 2)", 1, () -> x.cylinder(2, 2));
        for (int part : new int[] {-1, 2, 12, LEAST, MOST}) {
            Check.refused("face of part " + part, Check.INDEX, () -> x.face(part, 0, 1));
            Check.refused("index before range", Check.INDEX, () -> x.face(part, 0, 3));
        }
        for (int face : new int[] {-1, 6, LEAST, MOST}) {
            Check.refused("box face " + face, Check.INDEX, () -> x.face(0, face, 0));
            Check.refused("index before range", Check.INDEX, () -> x.face(0, face, -1));
        }
        for (int face : new int[] {-1, 3, 4, 5, LEAST, MOST}) {
            Check.refused("cylinder face " + face, Check.INDEX, () -> x.face(1, face, 0));
        }
        for (int how : new int[] {-1, 3, LEAST, MOST}) {
            Check.refused("how " + how, Check.RANGE, () -> x.face(0, 0, how));
            Check.refused("how " + how, Check.RANGE, () -> x.face(1, 2, how));
        }
        modulus(x, 0, 1, 3);
        modulus(x, 1, 1, 3);
    }

    private static void wrongModuli(FeedModulus x) {
        Check.due("box(2, 2, 2)", 0, () -> x.box(2, 2, 2));
        for (int wrong : new int[] {-1, 1, LEAST, MOST}) {
            Check.refused("modulus of part " + wrong, Check.INDEX, () -> x.modulus(wrong, 0));
        }
        for (int wrong : new int[] {-1, 2, LEAST, MOST}) {
            Check.refused("modulus which " + wrong, Check.INDEX, () -> x.modulus(0, wrong));
        }
    }

    private static void setFace(FeedModulus x, int part, int face, int how) {
        Check.done("face(" + part + ", " + face + ", " + how + ")", () -> x.face(part, face, how));
    }

    private static void fraction(FeedModulus x, int part, long upper, long lower) {
        long divisor = upper;
        while (upper % divisor != 0 || lower % divisor != 0) {
            divisor--;
        }
        modulus(x, part, upper / divisor, lower / divisor);
    }
}
