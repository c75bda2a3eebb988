/** Promise 1: a new object has no parts, no rows and an empty box of 1,000 by 1,000. */
public final class NewObjectTest {
    public static void main(String[] args) {
        noParts(new FeedModulus());
        noRows(new FeedModulus());
        emptyBox(new FeedModulus());
        objectsAreApart();
        Check.end();
    }

    private static void noParts(FeedModulus x) {
        Check.due("order(0)", -1, () -> x.order(0));
        Check.due("unfed(0)", -1, () -> x.unfed(0));
        Check.refused("feeder(0)", Check.INDEX, () -> x.feeder(0));
        Check.refused("modulus(0, 0)", Check.INDEX, () -> x.modulus(0, 0));
        Check.refused("face(0, 0, 0)", Check.INDEX, () -> x.face(0, 0, 0));
        Check.refused("join(0, 1, true)", Check.INDEX, () -> x.join(0, 1, true));
        Check.refused("riser(0)", Check.INDEX, () -> x.riser(0));
        Check.refused("cutOff(0)", Check.INDEX, () -> x.cutOff(0));
        Check.due("box(1, 1, 1)", 0, () -> x.box(1, 1, 1));
        Check.refused("riser(0) without rows", Check.MEANING, () -> x.riser(0));
        Check.refused("cutOff(0) without a riser", Check.TURN, () -> x.cutOff(0));
    }

    private static void noRows(FeedModulus x) {
        Check.refused("flow(0)", Check.TURN, () -> x.flow(0));
        Check.refused("gate(0)", Check.TURN, () -> x.gate(0));
        Check.due("flowRow(0, 0)", 1, () -> x.flowRow(0, 0));
        Check.due("riserRow(1, 1)", 1, () -> x.riserRow(1, 1));
    }

    private static void emptyBox(FeedModulus x) {
        Check.refused("packed(0, 0)", Check.INDEX, () -> x.packed(0, 0));
        Check.refused("pack(1001, 1)", Check.MEANING, () -> x.pack(1001, 1));
        Check.refused("pack(1, 1001)", Check.MEANING, () -> x.pack(1, 1001));
        Check.due("pack(1000, 1000)", 0, () -> x.pack(1000, 1000));
        Check.due("packed(0, 0)", 0, () -> x.packed(0, 0));
        Check.due("packed(0, 1)", 0, () -> x.packed(0, 1));
    }

    private static void objectsAreApart() {
        FeedModulus one = new FeedModulus();
        FeedModulus other = new FeedModulus();
        Check.due("box of one", 0, () -> one.box(2, 2, 2));
        Check.due("flow row of one", 1, () -> one.flowRow(5, 5));
        Check.due("order of the other", -1, () -> other.order(0));
        Check.refused("flow of the other", Check.TURN, () -> other.flow(5));
    }
}
