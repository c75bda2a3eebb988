/** Every call with every edge of every range in every place, on a bare and on full objects. */
public final class FarNumbersTest {
    private static final int LEAST = Integer.MIN_VALUE;
    private static final int MOST = Integer.MAX_VALUE;
    private static final int[] EDGES = {
        LEAST, LEAST + 1, -1000, -2, -1, 0, 1, 2, 3, 5, 6, 7, 11, 12, 13, 39, 40, 100, 101, 999,
        1000, 1001, 1999, 2000, 2001, 9999, 10_000, 10_001, 1 << 16, 999_999, 1_000_000, 1_000_001,
        1 << 30, MOST - 1, MOST,
    };
    private static final String[] OF_ONE = {
        "order", "riser", "cutOff", "feeder", "unfed", "flow", "gate",
    };
    private static final String[] OF_TWO = {
        "cylinder", "modulus", "riserRow", "flowRow", "pattern", "molding", "pack", "packed",
    };
    private static final int KINDS_OF_STATE = 4;

    private final int state;
    private FeedModulus object;
    private Model model;
    private int calls;

    private FarNumbersTest(int state) {
        this.state = state;
        startAnew();
    }

    public static void main(String[] args) {
        for (int state = 0; state < KINDS_OF_STATE; state++) {
            FarNumbersTest test = new FarNumbersTest(state);
            for (int a : EDGES) {
                test.askOfOne(a);
                for (int b : EDGES) {
                    test.askOfTwo(a, b);
                    for (int c : EDGES) {
                        test.compare(new Call("box", a, b, c));
                        test.compare(new Call("face", a, b, c));
                    }
                }
            }
        }
        Check.end();
    }

    private void askOfOne(int a) {
        for (String name : OF_ONE) {
            compare(new Call(name, a));
        }
    }

    private void askOfTwo(int a, int b) {
        for (String name : OF_TWO) {
            compare(new Call(name, a, b));
        }
        compare(new Call("join", a, b, 0));
        compare(new Call("join", a, b, 1));
    }

    /** What is taken may fill the object, so the next call gets a new one. */
    private void compare(Call call) {
        calls++;
        Call.Outcome due = call.on(model);
        Check.same("state " + state + ": " + call, due, call.on(object));
        if (due.thrown() == null || calls == Run.MOST_CALLS) {
            startAnew();
        }
    }

    private void startAnew() {
        object = new FeedModulus();
        model = new Model();
        calls = 0;
        int parts = new int[] {0, 3, 11, 12}[state];
        int rows = new int[] {0, 1, 7, 8}[state];
        int things = new int[] {0, 1, 39, 40}[state];
        for (int part = 0; part < parts; part++) {
            prepare(part % 3 == 1 ? new Call("cylinder", part + 1, 7)
                    : new Call("box", part + 1, 6, 5));
            if (part > 0) {
                prepare(new Call("join", part, part - 1, 1));
            }
        }
        for (int row = 0; row < rows; row++) {
            prepare(new Call("riserRow", 3 * row + 3, 9));
            prepare(new Call("flowRow", 1000 * row + 1000, 1000 * row));
        }
        for (int part = 0; part < parts && rows > 0; part += 2) {
            prepare(new Call("riser", part));
        }
        for (int thing = 0; thing < things; thing++) {
            prepare(new Call("pack", 20, 3));
        }
    }

    private void prepare(Call call) {
        calls++;
        call.on(object);
        call.on(model);
    }
}
