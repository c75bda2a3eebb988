import java.math.BigInteger;
import java.util.ArrayList;
import java.util.HashSet;
import java.util.List;
import java.util.Set;

/** The document told once more, slowly and with the library, to hold long runs against. */
final class Model {
    private record Fraction(BigInteger upper, BigInteger lower) implements Comparable<Fraction> {
        static Fraction of(long upper, long lower) {
            BigInteger u = BigInteger.valueOf(upper);
            BigInteger l = BigInteger.valueOf(lower);
            BigInteger divisor = u.gcd(l);
            return new Fraction(u.divide(divisor), l.divide(divisor));
        }

        @Override
        public int compareTo(Fraction other) {
            return upper.multiply(other.lower).compareTo(other.upper.multiply(lower));
        }
    }

    private static final class Part {
        int[] sizes;
        int[] hows;
        int riser = -1;

        Fraction modulus() {
            return sizes.length == 3 ? boxModulus() : cylinderModulus();
        }

        private Fraction boxModulus() {
            long x = sizes[0];
            long y = sizes[1];
            long z = sizes[2];
            long cooling = (hows[0] + hows[1]) * y * z + (hows[2] + hows[3]) * x * z
                    + (hows[4] + hows[5]) * x * y;
            return cooling == 0 ? null : Fraction.of(x * y * z, cooling);
        }

        private Fraction cylinderModulus() {
            long d = sizes[0];
            long h = sizes[1];
            long cooling = 4 * hows[0] * h + (hows[1] + hows[2]) * d;
            return cooling == 0 ? null : Fraction.of(d * h, cooling);
        }
    }

    private final List<Part> parts = new ArrayList<>();
    private final Set<List<Integer>> joints = new HashSet<>();
    private final List<int[]> riserRows = new ArrayList<>();
    private final List<int[]> flowRows = new ArrayList<>();
    private int[] molding = {1000, 1000};
    private final List<int[]> shelves = new ArrayList<>();
    private final List<int[]> things = new ArrayList<>();

    /** The calls by their names; a boolean is 0 or 1, a void call answers 0. */
    long call(String name, int a, int b, int c) {
        switch (name) {
            case "box": return addPart(6, a, b, c);
            case "cylinder": return addPart(3, a, b);
            case "face": return face(a, b, c);
            case "modulus": return modulus(a, b);
            case "join": return join(a, b, c == 1);
            case "order": return order(a);
            case "riserRow": return riserRow(a, b);
            case "riser": return riser(a);
            case "cutOff": return cutOff(a);
            case "feeder": index(isPart(a)); return feeder(a);
            case "unfed": return unfed(a);
            case "flowRow": return flowRow(a, b);
            case "flow": turn(!flowRows.isEmpty()); range(a, 0, 10000); return flow(a);
            case "gate": return gate(a);
            case "pattern": range(a, 1, 1000); range(b, 0, 100);
                return (long) Math.ceil(a * (1000.0 + b) / 1000.0);
            case "molding": return molding(a, b);
            case "pack": return pack(a, b);
            case "packed": index(a >= 0 && a < things.size() && (b == 0 || b == 1));
                return things.get(a)[b];
            default: throw new Error(name);
        }
    }

    private static void index(boolean so) {
        if (!so) {
            throw new IndexOutOfBoundsException();
        }
    }

    private static void turn(boolean so) {
        if (!so) {
            throw new IllegalStateException();
        }
    }

    private static void range(int value, int least, int most) {
        if (value < least || value > most) {
            throw new IllegalArgumentException();
        }
    }

    private static void meaning(boolean so) {
        if (!so) {
            throw new UnsupportedOperationException();
        }
    }

    private boolean isPart(int part) {
        return part >= 0 && part < parts.size();
    }

    private long addPart(int faces, int... sizes) {
        turn(parts.size() < 12);
        for (int size : sizes) {
            range(size, 1, 1000);
        }
        Part part = new Part();
        part.sizes = sizes;
        part.hows = new int[faces];
        java.util.Arrays.fill(part.hows, 1);
        parts.add(part);
        return parts.size() - 1;
    }

    private long face(int part, int face, int how) {
        index(isPart(part));
        index(face >= 0 && face < parts.get(part).hows.length);
        range(how, 0, 2);
        parts.get(part).hows[face] = how;
        return 0;
    }

    private long modulus(int part, int which) {
        index(isPart(part) && (which == 0 || which == 1));
        Fraction modulus = parts.get(part).modulus();
        meaning(modulus != null);
        return (which == 0 ? modulus.upper() : modulus.lower()).longValueExact();
    }

    private long join(int a, int b, boolean on) {
        index(isPart(a) && isPart(b) && a != b);
        List<Integer> pair = List.of(Math.min(a, b), Math.max(a, b));
        turn(on ? joints.add(pair) : joints.remove(pair));
        return 0;
    }

    private long order(int i) {
        index(i >= 0);
        List<Integer> told = new ArrayList<>();
        for (int part = 0; part < parts.size(); part++) {
            if (parts.get(part).modulus() != null) {
                told.add(part);
            }
        }
        // The list's sort is stable: parts of the same modulus stay by numbers.
        told.sort((a, b) -> parts.get(a).modulus().compareTo(parts.get(b).modulus()));
        return i < told.size() ? told.get(i) : -1;
    }

    private long riserRow(int d, int h) {
        turn(riserRows.size() < 8);
        range(d, 1, 1000);
        range(h, 1, 1000);
        riserRows.add(new int[] {d, h});
        return riserRows.size();
    }

    private long riser(int part) {
        index(isPart(part));
        Fraction modulus = parts.get(part).modulus();
        meaning(modulus != null);
        Fraction least = Fraction.of(modulus.upper().longValueExact() * 6,
                modulus.lower().longValueExact() * 5);
        for (int row = 0; row < riserRows.size(); row++) {
            int d = riserRows.get(row)[0];
            int h = riserRows.get(row)[1];
            if (Fraction.of(d * h, 4 * h + d).compareTo(least) >= 0) {
                parts.get(part).riser = row;
                return row;
            }
        }
        throw new UnsupportedOperationException();
    }

    private long cutOff(int part) {
        index(isPart(part));
        turn(parts.get(part).riser >= 0);
        parts.get(part).riser = -1;
        return 0;
    }

    private long feeder(int part) {
        Fraction own = parts.get(part).modulus();
        if (own == null) {
            return -2;
        }
        if (parts.get(part).riser >= 0) {
            return 100 + parts.get(part).riser;
        }
        int feeder = -1;
        for (int other = parts.size() - 1; other >= 0; other--) {
            Fraction modulus = parts.get(other).modulus();
            if (joints.contains(List.of(Math.min(part, other), Math.max(part, other)))
                    && modulus != null && modulus.compareTo(own) > 0
                    && (feeder < 0 || modulus.compareTo(parts.get(feeder).modulus()) >= 0)) {
                feeder = other;
            }
        }
        return feeder;
    }

    private long unfed(int i) {
        index(i >= 0);
        List<Integer> unfed = new ArrayList<>();
        for (int part = 0; part < parts.size(); part++) {
            if (feeder(part) == -1) {
                unfed.add(part);
            }
        }
        return i < unfed.size() ? unfed.get(i) : -1;
    }

    private long flowRow(int opening, int flow) {
        turn(flowRows.size() < 8);
        range(opening, 0, 10000);
        range(flow, 0, 1000000);
        for (int[] row : flowRows) {
            meaning(row[0] < opening && row[1] <= flow);
        }
        flowRows.add(new int[] {opening, flow});
        return flowRows.size();
    }

    private long flow(int opening) {
        int[] below = null;
        int[] above = null;
        for (int[] row : flowRows) {
            if (row[0] <= opening) {
                below = row;
            } else if (above == null) {
                above = row;
            }
        }
        if (below == null) {
            return above[1];
        }
        if (above == null) {
            return below[1];
        }
        return below[1] + (long) (above[1] - below[1]) * (opening - below[0])
                / (above[0] - below[0]);
    }

    /** Flows do not fall, so halving must find the least opening with so much flow. */
    private long gate(int aim) {
        turn(!flowRows.isEmpty());
        range(aim, 0, 1000000);
        meaning(flow(10000) >= aim);
        int opening = 0;
        while (flow(opening) < aim) {
            opening++;
        }
        return opening;
    }

    private long molding(int width, int depth) {
        range(width, 1, 2000);
        range(depth, 1, 2000);
        molding = new int[] {width, depth};
        shelves.clear();
        things.clear();
        return 0;
    }

    /** A shelf: where it begins, how deep it is, how much of its width is taken. */
    private long pack(int w, int d) {
        turn(things.size() < 40);
        range(w, 1, 2000);
        range(d, 1, 2000);
        int behind = 0;
        for (int[] shelf : shelves) {
            if (shelf[1] >= d && shelf[2] + w <= molding[0]) {
                things.add(new int[] {shelf[2], shelf[0]});
                shelf[2] += w;
                return things.size() - 1;
            }
            behind = shelf[0] + shelf[1];
        }
        meaning(w <= molding[0] && behind + d <= molding[1]);
        shelves.add(new int[] {behind, d, w});
        things.add(new int[] {0, behind});
        return things.size() - 1;
    }
}
