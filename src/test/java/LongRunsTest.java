import java.util.Random;

/** All promises: runs of 512 calls of every kind, held against the model. */
public final class LongRunsTest {
    private static final int RUNS = 400;
    private static final int CALLS = 512;
    private static final String[] ADDING = {"box", "cylinder", "riserRow", "flowRow"};
    private static final String[] NAMES = {
        "box", "cylinder", "face", "face", "face", "modulus", "modulus", "join", "join", "order",
        "riserRow", "riser", "cutOff", "feeder", "feeder", "unfed", "flowRow", "flow", "gate",
        "pattern", "molding", "pack", "pack", "pack", "pack", "pack", "packed", "packed",
    };
    private static final int[] ODD = {
        Integer.MIN_VALUE, Integer.MAX_VALUE, -1, 0, 1, 2, 3, 6, 7, 8, 11, 12, 13, 39, 40, 41,
        100, 101, 999, 1000, 1001, 2000, 2001, 9999, 10000, 10001, 999999, 1000000, 1000001,
    };

    public static void main(String[] args) {
        for (int run = 0; run < RUNS; run++) {
            Random random = new Random(run);
            Model model = new Model();
            FeedModulus x = new FeedModulus();
            // Small sizes in some runs, so that moduli are often the same.
            int greatest = run % 2 == 0 ? 4 : 1000;
            for (int i = 0; i < CALLS; i++) {
                String name = i < 24 ? ADDING[random.nextInt(ADDING.length)]
                        : NAMES[random.nextInt(NAMES.length)];
                // A new molding box is rarer, so that boxes get filled.
                if (name.equals("molding") && random.nextInt(4) > 0) {
                    name = "pack";
                }
                Call call = new Call(name, arguments(random, name, greatest));
                Check.same("run " + run + " call " + i + ": " + call, call.on(model), call.on(x));
            }
        }
        Check.end();
    }

    private static int[] arguments(Random random, String name, int greatest) {
        int[] v = new int[3];
        for (int i = 0; i < 3; i++) {
            v[i] = random.nextInt(40) == 0 ? ODD[random.nextInt(ODD.length)]
                    : usual(random, name, i, greatest);
        }
        return v;
    }

    private static int usual(Random random, String name, int place, int greatest) {
        switch (name) {
            case "box": case "cylinder": return 1 + random.nextInt(greatest);
            case "riserRow": return 1 + random.nextInt(greatest * (greatest < 1000 ? 4 : 1));
            case "face": return random.nextInt(new int[] {12, 6, 3}[place]);
            case "modulus": return random.nextInt(place == 0 ? 12 : 2);
            case "join": return random.nextInt(place < 2 ? 12 : 2);
            case "flowRow": return random.nextInt(place == 0 ? 10001 : 1000001);
            case "flow": return random.nextInt(10001);
            case "gate": return random.nextInt(random.nextInt(2) == 0 ? 1000001 : 100000);
            case "pattern": return place == 0 ? 1 + random.nextInt(1000) : random.nextInt(101);
            case "molding": return 1 + random.nextInt(2000);
            case "pack": return 1 + random.nextInt(random.nextInt(4) == 0 ? 1000 : 200);
            case "packed": return random.nextInt(place == 0 ? 12 : 2);
            default: return random.nextInt(12);
        }
    }
}
