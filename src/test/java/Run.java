import java.util.ArrayList;
import java.util.List;

/**
 * One object and the calls that it took. Each refused call is told a second time to a twin of the
 * object, which must then answer every later call as a twin that has never heard it.
 */
final class Run {
    /** What an object answers is promised for so many calls. */
    static final int MOST_CALLS = 512;

    /** Marks the place of the wrong number in {@link #refusedWithEach}. */
    static final int HERE = -12345;

    private final String sentence;
    private final FeedModulus object = new FeedModulus();
    private final List<Call> taken = new ArrayList<>();
    private int calls = 0;

    /** @param sentence the words of the document that the run is about */
    Run(String sentence) {
        this.sentence = sentence;
    }

    Run due(long want, String name, int... numbers) {
        Call call = new Call(name, numbers);
        Check.same(told(call), new Call.Outcome(want, null), take(call));
        taken.add(call);
        return this;
    }

    Run done(String name, int... numbers) {
        return due(0, name, numbers);
    }

    Run refused(Class<?> want, String name, int... numbers) {
        Call call = new Call(name, numbers);
        Check.same(told(call), new Call.Outcome(0, want), take(call));
        for (List<Call> probe : Probes.ALL) {
            changesNothing(call, probe);
        }
        return this;
    }

    /** Each of the wrong numbers stands once where the call has {@link #HERE}. */
    Run refusedWithEach(int[] wrong, Class<?> want, String name, int... numbers) {
        for (int number : wrong) {
            int[] filled = numbers.clone();
            for (int place = 0; place < filled.length; place++) {
                filled[place] = filled[place] == HERE ? number : filled[place];
            }
            refused(want, name, filled);
        }
        return this;
    }

    /** The numbers next to a range, and far from it, where sums and products wrap around. */
    static int[] beyond(int least, int most) {
        return new int[] {
            least - 1, most + 1, ~most, (1 << 30) + least, Integer.MIN_VALUE, Integer.MAX_VALUE,
        };
    }

    private void changesNothing(Call refused, List<Call> probe) {
        FeedModulus plain = twin();
        FeedModulus other = twin();
        refused.on(other);
        Check.holds(told(refused) + ": the twins stay within the promised calls",
                taken.size() + 1 + probe.size() <= MOST_CALLS);
        for (Call call : probe) {
            Check.same(told(refused) + " changed " + call, call.on(plain), call.on(other));
        }
    }

    private FeedModulus twin() {
        FeedModulus made = new FeedModulus();
        for (Call call : taken) {
            call.on(made);
        }
        return made;
    }

    private Call.Outcome take(Call call) {
        calls++;
        Check.holds(told(call) + " is a promised call", calls <= MOST_CALLS);
        return call.on(object);
    }

    private String told(Call call) {
        return "\"" + sentence + "\" " + call;
    }
}
