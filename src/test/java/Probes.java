import java.util.ArrayList;
import java.util.List;

/** Calls that between them tell all that an object can hold; each list is for a new twin. */
final class Probes {
    private static final int PARTS = 12;
    private static final int THINGS = 40;
    private static final int[] OPENINGS = {
        0, 1, 2, 3, 4, 5, 6, 7, 8, 9, 10, 11, 50, 99, 100, 101, 500, 999, 1000, 1001, 4999, 5000,
        5001, 9998, 9999, 10000,
    };
    private static final int[] AIMS = {
        0, 1, 2, 3, 5, 7, 8, 10, 100, 101, 1000, 50000, 99999, 500000, 999999, 1000000,
    };
    private static final int[] WIDTHS = {2000, 1000, 100, 10, 1};
    private static final int[] HALVES = {
        2000, 1000, 500, 250, 125, 63, 32, 16, 8, 4, 2, 1, 1,
    };

    static final List<List<Call>> ALL = List.of(
            moduli(), joints(), risers(), partsAndRows(), flows(), things(), widthLeft(),
            depthLeft());

    private Probes() {
    }

    private static List<Call> moduli() {
        List<Call> calls = new ArrayList<>();
        for (int part = 0; part < PARTS; part++) {
            for (int face = 0; face < 6; face++) {
                calls.add(new Call("modulus", part, 0));
                calls.add(new Call("modulus", part, 1));
                calls.add(new Call("face", part, face, 0));
            }
        }
        return calls;
    }

    private static List<Call> joints() {
        List<Call> calls = new ArrayList<>();
        for (int i = 0; i <= PARTS; i++) {
            calls.add(new Call("order", i));
            calls.add(new Call("unfed", i));
            calls.add(new Call("feeder", i));
        }
        for (int a = 0; a < PARTS; a++) {
            for (int b = a + 1; b < PARTS; b++) {
                calls.add(new Call("join", b, a, 1));
            }
        }
        return calls;
    }

    /** A face is cooled first, since a riser of a covered part can't be seen. */
    private static List<Call> risers() {
        List<Call> calls = new ArrayList<>();
        for (int part = 0; part < PARTS; part++) {
            calls.add(new Call("face", part, 0, 1));
            calls.add(new Call("feeder", part));
            calls.add(new Call("cutOff", part));
            calls.add(new Call("riser", part));
        }
        return calls;
    }

    /** How many parts and riser rows there are, and what the rows are good for. */
    private static List<Call> partsAndRows() {
        List<Call> calls = new ArrayList<>();
        for (int size = 1; size <= PARTS + 1; size++) {
            calls.add(new Call("box", size * 70, size * 70, size * 70));
            calls.add(new Call("riser", size - 1));
        }
        for (int row = 0; row <= 8; row++) {
            calls.add(new Call("riserRow", 1000, 1000));
        }
        return calls;
    }

    private static List<Call> flows() {
        List<Call> calls = new ArrayList<>();
        for (int opening : OPENINGS) {
            calls.add(new Call("flow", opening));
        }
        for (int aim : AIMS) {
            calls.add(new Call("gate", aim));
        }
        for (int row = 8; row >= 0; row--) {
            calls.add(new Call("flowRow", 10000 - row, 1000000));
        }
        for (int opening : OPENINGS) {
            calls.add(new Call("flow", opening));
        }
        return calls;
    }

    private static List<Call> things() {
        List<Call> calls = new ArrayList<>();
        places(calls);
        for (int thing = 0; thing <= THINGS; thing++) {
            calls.add(new Call("pack", 1, 1));
        }
        places(calls);
        return calls;
    }

    private static List<Call> widthLeft() {
        List<Call> calls = new ArrayList<>();
        for (int half : HALVES) {
            calls.add(new Call("pack", half, 1));
            calls.add(new Call("pack", half, 1));
        }
        places(calls);
        return calls;
    }

    /** Only a thing as wide as the box needs a new shelf for sure. */
    private static List<Call> depthLeft() {
        List<Call> calls = new ArrayList<>();
        for (int width : WIDTHS) {
            for (int half : HALVES) {
                calls.add(new Call("pack", width, half));
            }
        }
        places(calls);
        return calls;
    }

    private static void places(List<Call> calls) {
        for (int thing = 0; thing <= THINGS; thing++) {
            calls.add(new Call("packed", thing, 0));
            calls.add(new Call("packed", thing, 1));
        }
    }
}
