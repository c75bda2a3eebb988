import java.util.Random;

/** All promises: runs of 512 calls of every kind, held against the model. */
public final class LongRunsTest {
    private static final int RUNS = 400;
    private static final int CALLS = 512;
    private static final String[] ADDING = {"box", "cylinder", "riserRow", "flowRow"};
    private static final String[] NAMES = {
        "box", "cylinder", "face", "face", "face", "modulus", "modulus", "join", "join", "order",
        "riserRow", "riser", "cutOff", "feeder", "feeder", "unfed", "flowRow", "flow", "gate",
        "pattern", "molding", "pack", "pack", "pack", "pack", "pack", "packed", "packed",
    };
    private static final int[] ODD = {
        Integer.MIN_VALUE, Integer.MAX_VALUE, -1, 0, 1, 2, 3, 6, 7, 8, 11, 12, 13, 39, 40, 41,
        100, 101, 999, 1000, 1001, 2000, 2001, 9999, 10000, 10001, 999999, 1000000, 1000001,
    };

    public static void main(String[] args) {
        for (int run = 0; run < RUNS; run++) {
            Random random = new Random(run);
            Model model = new Model();
            FeedModulus x = new FeedModulus();
            // Small sizes in some runs, so that moduli are often the same.
            int greatest = run % 2 == 0 ? 4 : 1000;
            for (int i = 0; i < CALLS; i++) {
                String name = i < 24 ? ADDING[random.nextInt(ADDING.length)]
                        : NAMES[random.nextInt(NAMES.length)];
                int[] v = arguments(random, name, greatest);
                if (name.equals("molding") && random.nextInt(4) > 0) {
                    continue;
                }
                compare("run " + run + " call " + i + ": ", name, v, model, x);
            }
        }
        Check.end();
    }

    private static void compare(String where, String name, int[] v, Model model, FeedModulus x) {
        String call = where + name + "(" + v[0] + ", " + v[1] + ", " + v[2] + ")";
        long want = 0;
        Class<?> refusal = null;
        try {
            want = model.call(name, v[0], v[1], v[2]);
        } catch (RuntimeException e) {
            refusal = e.getClass();
        }
        if (refusal == null) {
            Check.due(call, want, () -> ask(x, name, v));
        } else {
            Check.refused(call, refusal, () -> ask(x, name, v));
        }
    }

    private static int[] arguments(Random random, String name, int greatest) {
        int[] v = new int[3];
        for (int i = 0; i < 3; i++) {
            v[i] = random.nextInt(40) == 0 ? ODD[random.nextInt(ODD.length)]
                    : usual(random, name, i, greatest);
        }
        return v;
    }

    private static int usual(Random random, String name, int place, int greatest) {
        switch (name) {
            case "box": case "cylinder": return 1 + random.nextInt(greatest);
            case "riserRow": return 1 + random.nextInt(greatest * (greatest < 1000 ? 4 : 1));
            case "face": return random.nextInt(new int[] {12, 6, 3}[place]);
            case "modulus": return random.nextInt(place == 0 ? 12 : 2);
            case "join": return random.nextInt(place < 2 ? 12 : 2);
            case "flowRow": return random.nextInt(place == 0 ? 10001 : 1000001);
            case "flow": return random.nextInt(10001);
            case "gate": return random.nextInt(random.nextInt(2) == 0 ? 1000001 : 100000);
            case "pattern": return place == 0 ? 1 + random.nextInt(1000) : random.nextInt(101);
            case "molding": return 1 + random.nextInt(2000);
            case "pack": return 1 + random.nextInt(random.nextInt(4) == 0 ? 1000 : 200);
            case "packed": return random.nextInt(place == 0 ? 12 : 2);
            default: return random.nextInt(12);
        }
    }

    private static long ask(FeedModulus x, String name, int[] v) {
        switch (name) {
            case "box": return x.box(v[0], v[1], v[2]);
            case "cylinder": return x.cylinder(v[0], v[1]);
            case "face": x.face(v[0], v[1], v[2]); return 0;
            case "modulus": return x.modulus(v[0], v[1]);
            case "join": x.join(v[0], v[1], v[2] == 1); return 0;
            case "order": return x.order(v[0]);
            case "riserRow": return x.riserRow(v[0], v[1]);
            case "riser": return x.riser(v[0]);
            case "cutOff": x.cutOff(v[0]); return 0;
            case "feeder": return x.feeder(v[0]);
            case "unfed": return x.unfed(v[0]);
            case "flowRow": return x.flowRow(v[0], v[1]);
            case "flow": return x.flow(v[0]);
            case "gate": return x.gate(v[0]);
            case "pattern": return x.pattern(v[0], v[1]);
            case "molding": x.molding(v[0], v[1]); return 0;
            case "pack": return x.pack(v[0], v[1]);
            case "packed": return x.packed(v[0], v[1]);
            default: throw new Error(name);
        }
    }
}
