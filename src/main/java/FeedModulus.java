/**
 * Castings of boxes and cylinders: their moduli as exact fractions, what feeds what, risers,
 * a gate's opening, patterns with shrinkage, and moldings packed on shelves.
 *
 * <p>Each public method makes all its checks before it changes anything, so that what is refused
 * leaves the object as it was. The classes inside trust the numbers that they are handed.
 */
public final class FeedModulus {
    private static final int MOST_PARTS = 12;
    private static final int BOX_FACES = 6;
    private static final int CYLINDER_FACES = 3;
    private static final int MOST_ROWS = 8;
    private static final int MOST_THINGS = 40;

    private static final int LONGEST_SIZE = 1_000;
    private static final int WIDEST_OPENING = 10_000;
    private static final int GREATEST_FLOW = 1_000_000;
    private static final int GREATEST_SHRINKAGE = 100;
    private static final int LONGEST_MOLDING = 2_000;
    private static final int FIRST_MOLDING = 1_000;

    private static final int COOLS = 1;
    private static final int CHILLED = 2;

    private static final int NONE = -1;
    private static final int CANNOT_BE_TOLD = -2;
    private static final int FIRST_RISER = 100;

    /** Far above the some 45 steps that two numbers up to 1,000,000,000 can need. */
    private static final int MOST_DIVISOR_STEPS = 100;
    /** Far above the 14 halvings that 10,001 openings can need. */
    private static final int MOST_HALVINGS = 100;

    private final Parts parts = new Parts();
    private final RiserTable riserTable = new RiserTable();
    private final FlowTable flowTable = new FlowTable();
    private final MoldingBox moldingBox = new MoldingBox();

    public FeedModulus() {
    }

    public int box(int x, int y, int z) throws IllegalStateException, IllegalArgumentException {
        requireRoomForPart();
        requireSize(x);
        requireSize(y);
        requireSize(z);
        return parts.addBox(x, y, z);
    }

    public int cylinder(int d, int h) throws IllegalStateException, IllegalArgumentException {
        requireRoomForPart();
        requireSize(d);
        requireSize(h);
        return parts.addCylinder(d, h);
    }

    public void face(int part, int face, int how)
            throws IndexOutOfBoundsException, IllegalArgumentException {
        requirePart(part);
        if (!parts.hasFace(part, face)) {
            throw new IndexOutOfBoundsException("no such face");
        }
        if (how < 0 || how > CHILLED) {
            throw new IllegalArgumentException("a face is 0, 1 or 2");
        }
        parts.setTimes(part, face, how);
    }

    public long modulus(int part, int which)
            throws IndexOutOfBoundsException, UnsupportedOperationException {
        requirePart(part);
        if (which < 0 || which > 1) {
            throw new IndexOutOfBoundsException("a fraction has the parts 0 and 1");
        }
        requireTold(part);
        return inLowestTerms(parts.upper(part), parts.lower(part), which);
    }

    public void join(int a, int b, boolean on)
            throws IndexOutOfBoundsException, IllegalStateException {
        requirePart(a);
        requirePart(b);
        if (a == b) {
            throw new IndexOutOfBoundsException("a part is not joined to itself");
        }
        if (parts.areJoined(a, b) == on) {
            throw new IllegalStateException("the parts are so already");
        }
        parts.setJoined(a, b, on);
    }

    public int order(int i) throws IndexOutOfBoundsException {
        requireNotBelowZero(i);
        for (int part = 0; part < parts.count(); part++) {
            if (parts.isTold(part) && parts.solidBefore(part) == i) {
                return part;
            }
        }
        return NONE;
    }

    public int riserRow(int d, int h) throws IllegalStateException, IllegalArgumentException {
        if (riserTable.isFull()) {
            throw new IllegalStateException("there are 8 riser rows");
        }
        requireSize(d);
        requireSize(h);
        return riserTable.addRow(d, h);
    }

    public int riser(int part) throws IndexOutOfBoundsException, UnsupportedOperationException {
        requirePart(part);
        requireTold(part);
        int row = riserTable.firstFor(parts.upper(part), parts.lower(part));
        if (row == NONE) {
            throw new UnsupportedOperationException("no riser row is great enough");
        }
        parts.setRiser(part, row);
        return row;
    }

    public void cutOff(int part) throws IndexOutOfBoundsException, IllegalStateException {
        requirePart(part);
        if (parts.riserOf(part) == NONE) {
            throw new IllegalStateException("the part has no riser");
        }
        parts.setRiser(part, NONE);
    }

    public int feeder(int part) throws IndexOutOfBoundsException {
        requirePart(part);
        return whatFeeds(part);
    }

    public int unfed(int i) throws IndexOutOfBoundsException {
        requireNotBelowZero(i);
        int before = 0;
        for (int part = 0; part < parts.count(); part++) {
            if (whatFeeds(part) == NONE) {
                if (before == i) {
                    return part;
                }
                before++;
            }
        }
        return NONE;
    }

    public int flowRow(int opening, int flow)
            throws IllegalStateException, IllegalArgumentException, UnsupportedOperationException {
        if (flowTable.isFull()) {
            throw new IllegalStateException("there are 8 flow rows");
        }
        requireOpening(opening);
        requireFlow(flow);
        if (!flowTable.mayFollow(opening, flow)) {
            throw new UnsupportedOperationException("openings rise and flows do not fall");
        }
        return flowTable.addRow(opening, flow);
    }

    public int flow(int opening) throws IllegalStateException, IllegalArgumentException {
        requireFlowRows();
        requireOpening(opening);
        return flowTable.flowAt(opening);
    }

    public int gate(int aim)
            throws IllegalStateException, IllegalArgumentException, UnsupportedOperationException {
        requireFlowRows();
        requireFlow(aim);
        if (flowTable.flowAt(WIDEST_OPENING) < aim) {
            throw new UnsupportedOperationException("no opening lets so much through");
        }
        return flowTable.leastOpeningFor(aim);
    }

    public int pattern(int millimetres, int shrinkage) throws IllegalArgumentException {
        requireSize(millimetres);
        if (shrinkage < 0 || shrinkage > GREATEST_SHRINKAGE) {
            throw new IllegalArgumentException("a shrinkage is 0 to 100 thousandths");
        }
        return (millimetres * (1_000 + shrinkage) + 999) / 1_000;
    }

    public void molding(int width, int depth) throws IllegalArgumentException {
        requireMoldingSize(width);
        requireMoldingSize(depth);
        moldingBox.clearTo(width, depth);
    }

    public int pack(int w, int d)
            throws IllegalStateException, IllegalArgumentException, UnsupportedOperationException {
        if (moldingBox.isFull()) {
            throw new IllegalStateException("there are 40 things");
        }
        requireMoldingSize(w);
        requireMoldingSize(d);
        int shelf = moldingBox.shelfFor(w, d);
        if (shelf == NONE) {
            throw new UnsupportedOperationException("the thing does not fit");
        }
        return moldingBox.putOn(shelf, w, d);
    }

    public int packed(int thing, int what) throws IndexOutOfBoundsException {
        if (!moldingBox.hasThing(thing)) {
            throw new IndexOutOfBoundsException("no such thing");
        }
        if (what < 0 || what > 1) {
            throw new IndexOutOfBoundsException("a thing begins along 0 and 1");
        }
        return what == 0 ? moldingBox.alongWidth(thing) : moldingBox.alongDepth(thing);
    }

    private int whatFeeds(int part) {
        // Asked before the riser: a part whose modulus can't be told is fed by none, its riser too.
        if (!parts.isTold(part)) {
            return CANNOT_BE_TOLD;
        }
        int row = parts.riserOf(part);
        return row == NONE ? parts.greatestNeighbour(part) : FIRST_RISER + row;
    }

    private void requirePart(int part) {
        if (!parts.has(part)) {
            throw new IndexOutOfBoundsException("no such part");
        }
    }

    private void requireRoomForPart() {
        if (parts.isFull()) {
            throw new IllegalStateException("there are 12 parts");
        }
    }

    private void requireTold(int part) {
        if (!parts.isTold(part)) {
            throw new UnsupportedOperationException("no face of the part cools");
        }
    }

    private void requireFlowRows() {
        if (flowTable.isEmpty()) {
            throw new IllegalStateException("there are no flow rows");
        }
    }

    private static void requireNotBelowZero(int i) {
        if (i < 0) {
            throw new IndexOutOfBoundsException("below 0");
        }
    }

    private static void requireSize(int size) {
        if (size < 1 || size > LONGEST_SIZE) {
            throw new IllegalArgumentException("a size is 1 to 1,000 millimetres");
        }
    }

    private static void requireOpening(int opening) {
        if (opening < 0 || opening > WIDEST_OPENING) {
            throw new IllegalArgumentException("an opening is 0 to 10,000");
        }
    }

    private static void requireFlow(int flow) {
        if (flow < 0 || flow > GREATEST_FLOW) {
            throw new IllegalArgumentException("a flow is 0 to 1,000,000");
        }
    }

    private static void requireMoldingSize(int size) {
        if (size < 1 || size > LONGEST_MOLDING) {
            throw new IllegalArgumentException("a molding's size is 1 to 2,000");
        }
    }

    private static long inLowestTerms(long upper, long lower, int which) {
        long told = which == 0 ? upper : lower;
        long divisor = greatestDivisor(upper, lower);
        return divisor > 0 ? told / divisor : told;
    }

    private static long greatestDivisor(long a, long b) {
        long greater = a;
        long rest = b;
        for (int step = 0; step < MOST_DIVISOR_STEPS && rest != 0; step++) {
            long next = greater % rest;
            greater = rest;
            rest = next;
        }
        return greater;
    }

    /**
     * The parts with their joints and risers. A face has a weight, which it adds to the lower
     * number of the modulus each time that it counts: so boxes and cylinders are the same here.
     */
    private static final class Parts {
        private final long[] uppers = new long[MOST_PARTS];
        private final long[] lowers = new long[MOST_PARTS];
        private final int[] faces = new int[MOST_PARTS];
        private final int[] weights = new int[MOST_PARTS * BOX_FACES];
        private final int[] times = new int[MOST_PARTS * BOX_FACES];
        private final int[] risers = new int[MOST_PARTS];
        private final boolean[] joints = new boolean[MOST_PARTS * MOST_PARTS];
        private int count;

        Parts() {
        }

        int count() {
            return count;
        }

        boolean isFull() {
            return count >= MOST_PARTS;
        }

        boolean has(int part) {
            return part >= 0 && part < count;
        }

        boolean hasFace(int part, int face) {
            return face >= 0 && face < faces[part];
        }

        int addBox(int x, int y, int z) {
            int part = open(BOX_FACES, (long) x * y * z);
            addFace(part, 0, y * z);
            addFace(part, 1, y * z);
            addFace(part, 2, x * z);
            addFace(part, 3, x * z);
            addFace(part, 4, x * y);
            addFace(part, 5, x * y);
            return part;
        }

        int addCylinder(int d, int h) {
            int part = open(CYLINDER_FACES, (long) d * h);
            addFace(part, 0, 4 * h);
            addFace(part, 1, d);
            addFace(part, 2, d);
            return part;
        }

        private int open(int faceCount, long upper) {
            int part = count;
            count++;
            faces[part] = faceCount;
            uppers[part] = upper;
            risers[part] = NONE;
            return part;
        }

        private void addFace(int part, int face, int weight) {
            weights[part * BOX_FACES + face] = weight;
            setTimes(part, face, COOLS);
        }

        void setTimes(int part, int face, int how) {
            int at = part * BOX_FACES + face;
            lowers[part] += (long) weights[at] * (how - times[at]);
            times[at] = how;
        }

        long upper(int part) {
            return uppers[part];
        }

        long lower(int part) {
            return lowers[part];
        }

        boolean isTold(int part) {
            return lowers[part] > 0;
        }

        boolean areJoined(int a, int b) {
            return joints[a * MOST_PARTS + b];
        }

        void setJoined(int a, int b, boolean on) {
            joints[a * MOST_PARTS + b] = on;
            joints[b * MOST_PARTS + a] = on;
        }

        int riserOf(int part) {
            return risers[part];
        }

        void setRiser(int part, int row) {
            risers[part] = row;
        }

        /** Both must be told; the products stay below 2 to the 54th. */
        private int compare(int a, int b) {
            return Long.compare(uppers[a] * lowers[b], uppers[b] * lowers[a]);
        }

        /** How many parts grow solid before this one, which must be told. */
        int solidBefore(int part) {
            int before = 0;
            for (int other = 0; other < count; other++) {
                if (isTold(other) && isEarlier(other, part)) {
                    before++;
                }
            }
            return before;
        }

        private boolean isEarlier(int a, int b) {
            int difference = compare(a, b);
            return difference < 0 || difference == 0 && a < b;
        }

        /** The feeder among the neighbours of a part that is told, or NONE. */
        int greatestNeighbour(int part) {
            // Starting from the part itself leaves out neighbours that are not greater than it.
            int greatest = part;
            for (int other = 0; other < count; other++) {
                if (areJoined(part, other) && isTold(other) && compare(other, greatest) > 0) {
                    greatest = other;
                }
            }
            return greatest == part ? NONE : greatest;
        }
    }

    private static final class RiserTable {
        private final long[] uppers = new long[MOST_ROWS];
        private final long[] lowers = new long[MOST_ROWS];
        private int count;

        RiserTable() {
        }

        boolean isFull() {
            return count >= MOST_ROWS;
        }

        int addRow(int d, int h) {
            uppers[count] = (long) d * h;
            // The side and one end: the other end stands on the part and does not cool.
            lowers[count] = 4L * h + d;
            count++;
            return count;
        }

        /** The first row not below six fifths of this modulus, or NONE. */
        int firstFor(long upper, long lower) {
            for (int row = 0; row < count; row++) {
                if (5 * uppers[row] * lower >= 6 * upper * lowers[row]) {
                    return row;
                }
            }
            return NONE;
        }
    }

    private static final class FlowTable {
        private final int[] openings = new int[MOST_ROWS];
        private final int[] flows = new int[MOST_ROWS];
        private int count;

        FlowTable() {
        }

        boolean isFull() {
            return count >= MOST_ROWS;
        }

        boolean isEmpty() {
            return count == 0;
        }

        boolean mayFollow(int opening, int flow) {
            return count == 0 || opening > openings[count - 1] && flow >= flows[count - 1];
        }

        int addRow(int opening, int flow) {
            openings[count] = opening;
            flows[count] = flow;
            count++;
            return count;
        }

        int flowAt(int opening) {
            int reached = flows[0];
            if (opening <= openings[0]) {
                return reached;
            }
            for (int row = 1; row < count; row++) {
                if (opening < openings[row]) {
                    return flowBetween(row - 1, row, opening);
                }
                reached = flows[row];
            }
            return reached;
        }

        private int flowBetween(int a, int b, int opening) {
            int apart = openings[b] - openings[a];
            if (apart <= 0) {
                return flows[a];
            }
            long rise = flows[b] - flows[a];
            return flows[a] + (int) (rise * (opening - openings[a]) / apart);
        }

        int leastOpeningFor(int aim) {
            int low = 0;
            int high = WIDEST_OPENING;
            for (int step = 0; step < MOST_HALVINGS && low < high; step++) {
                int middle = (low + high) / 2;
                if (flowAt(middle) >= aim) {
                    high = middle;
                } else {
                    low = middle + 1;
                }
            }
            return low;
        }
    }

    /** Every shelf holds a thing, so there are never more shelves than things. */
    private static final class MoldingBox {
        private final int[] thingsAlongWidth = new int[MOST_THINGS];
        private final int[] thingsAlongDepth = new int[MOST_THINGS];
        private final int[] shelfBegins = new int[MOST_THINGS];
        private final int[] shelfDepths = new int[MOST_THINGS];
        private final int[] shelfWidthsUsed = new int[MOST_THINGS];
        private int width = FIRST_MOLDING;
        private int depth = FIRST_MOLDING;
        private int depthUsed;
        private int things;
        private int shelves;

        MoldingBox() {
        }

        void clearTo(int newWidth, int newDepth) {
            width = newWidth;
            depth = newDepth;
            depthUsed = 0;
            things = 0;
            shelves = 0;
        }

        boolean isFull() {
            return things >= MOST_THINGS;
        }

        boolean hasThing(int thing) {
            return thing >= 0 && thing < things;
        }

        /** The first shelf with room, else the number that a new one would get, else NONE. */
        int shelfFor(int w, int d) {
            for (int shelf = 0; shelf < shelves; shelf++) {
                if (d <= shelfDepths[shelf] && w <= width - shelfWidthsUsed[shelf]) {
                    return shelf;
                }
            }
            return w <= width && d <= depth - depthUsed ? shelves : NONE;
        }

        int putOn(int shelf, int w, int d) {
            if (shelf == shelves) {
                openShelf(d);
            }
            int thing = things;
            things++;
            thingsAlongWidth[thing] = shelfWidthsUsed[shelf];
            thingsAlongDepth[thing] = shelfBegins[shelf];
            shelfWidthsUsed[shelf] += w;
            return thing;
        }

        private void openShelf(int d) {
            shelfBegins[shelves] = depthUsed;
            shelfDepths[shelves] = d;
            shelfWidthsUsed[shelves] = 0;
            depthUsed += d;
            shelves++;
        }

        int alongWidth(int thing) {
            return thingsAlongWidth[thing];
        }

        int alongDepth(int thing) {
            return thingsAlongDepth[thing];
        }
    }
}
