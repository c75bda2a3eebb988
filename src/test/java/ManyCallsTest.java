import java.lang.reflect.Array;
import java.lang.reflect.Field;
import java.lang.reflect.Modifier;
import java.util.Collections;
import java.util.IdentityHashMap;
import java.util.Random;
import java.util.Set;

/** "At most 512 calls after it has been made", and "All memory is rows made once". */
public final class ManyCallsTest {
    /** A right call of each kind, and a wrong one, for an object with a part, rows and a thing. */
    private static final Call[] KINDS = {
        new Call("box", 2, 2, 2), new Call("box", 0, 1, 1),
        new Call("cylinder", 2, 2), new Call("cylinder", 1, 1001),
        new Call("face", 0, 0, 2), new Call("face", 0, 6, 2), new Call("face", 0, 0, 3),
        new Call("modulus", 0, 0), new Call("modulus", 0, 2),
        new Call("join", 0, 1, 1), new Call("join", 0, 0, 1),
        new Call("order", 0), new Call("order", -1),
        new Call("riserRow", 9, 9), new Call("riserRow", 0, 9),
        new Call("riser", 0), new Call("riser", 12),
        new Call("cutOff", 0), new Call("cutOff", -1),
        new Call("feeder", 0), new Call("feeder", 12),
        new Call("unfed", 0), new Call("unfed", -1),
        new Call("flowRow", 10, 10), new Call("flowRow", -1, 0),
        new Call("flow", 10), new Call("flow", 10001),
        new Call("gate", 10), new Call("gate", 1000001),
        new Call("pattern", 10, 10), new Call("pattern", 0, 0),
        new Call("molding", 100, 100), new Call("molding", 0, 1),
        new Call("pack", 10, 10), new Call("pack", 2000, 2000), new Call("pack", 0, 0),
        new Call("packed", 0, 0), new Call("packed", 40, 0),
    };
    private static final Call[] START = {
        new Call("box", 1, 1, 1), new Call("riserRow", 1, 1), new Call("flowRow", 1, 1),
        new Call("pack", 1, 1),
    };

    public static void main(String[] args) {
        for (Call often : KINDS) {
            for (Call last : KINDS) {
                theLastPromisedCall(often, last);
            }
        }
        allKindsInTurn();
        manyObjectsAtOnce();
        rowsMadeOnce();
        Check.end();
    }

    private static void theLastPromisedCall(Call often, Call last) {
        FeedModulus x = new FeedModulus();
        Model model = new Model();
        for (int calls = 1; calls <= Run.MOST_CALLS; calls++) {
            Call call = calls <= START.length ? START[calls - 1]
                    : calls == Run.MOST_CALLS ? last : often;
            Check.same(often + " often, call " + calls + ": " + call, call.on(model), call.on(x));
        }
    }

    private static void allKindsInTurn() {
        for (int step = 1; step < KINDS.length; step++) {
            FeedModulus x = new FeedModulus();
            Model model = new Model();
            for (int calls = 0; calls < Run.MOST_CALLS; calls++) {
                Call call = KINDS[calls * step % KINDS.length];
                Check.same("in turn, call " + calls + ": " + call, call.on(model), call.on(x));
            }
        }
    }

    private static void manyObjectsAtOnce() {
        FeedModulus[] objects = new FeedModulus[30];
        Model[] models = new Model[objects.length];
        for (int i = 0; i < objects.length; i++) {
            objects[i] = new FeedModulus();
            models[i] = new Model();
        }
        for (int calls = 0; calls < Run.MOST_CALLS; calls++) {
            for (int i = 0; i < objects.length; i++) {
                Call call = KINDS[calls * (i + 1) % KINDS.length];
                Check.same("object " + i + ": " + call, call.on(models[i]), call.on(objects[i]));
            }
        }
    }

    private static void rowsMadeOnce() {
        FeedModulus x = new FeedModulus();
        Set<Object> first = held(x);
        Check.holds("an object holds at most 50 objects and arrays", first.size() <= 50);
        Check.holds("and at most 1,000 fields and elements", places(first) <= 1000);
        Random random = new Random(7);
        for (int calls = 0; calls < Run.MOST_CALLS; calls++) {
            KINDS[random.nextInt(KINDS.length)].on(x);
        }
        Set<Object> later = held(x);
        Check.holds("the same rows after 512 calls",
                later.size() == first.size() && first.containsAll(later));
    }

    private static Set<Object> held(Object root) {
        Set<Object> found = Collections.newSetFromMap(new IdentityHashMap<>());
        walk(root, found);
        return found;
    }

    private static void walk(Object at, Set<Object> found) {
        if (at == null || !found.add(at)) {
            return;
        }
        if (at.getClass().isArray()) {
            for (int i = 0; !at.getClass().getComponentType().isPrimitive()
                    && i < Array.getLength(at); i++) {
                walk(Array.get(at, i), found);
            }
            return;
        }
        for (Field field : at.getClass().getDeclaredFields()) {
            if (!Modifier.isStatic(field.getModifiers()) && !field.getType().isPrimitive()) {
                walk(value(field, at), found);
            }
        }
    }

    private static Object value(Field field, Object of) {
        try {
            field.setAccessible(true);
            return field.get(of);
        } catch (IllegalAccessException e) {
            throw new Error(e);
        }
    }

    private static int places(Set<Object> found) {
        int places = 0;
        for (Object at : found) {
            places += at.getClass().isArray() ? Array.getLength(at)
                    : at.getClass().getDeclaredFields().length;
        }
        return places;
    }
}
