/** Counts and prints the answers that are not due; each test ends with {@link #end}. */
final class Check {
    interface Asked {
        long answer();
    }

    interface Done {
        void run();
    }

    private static final Class<?> NOTHING = null;
    static final Class<?> INDEX = IndexOutOfBoundsException.class;
    static final Class<?> TURN = IllegalStateException.class;
    static final Class<?> RANGE = IllegalArgumentException.class;
    static final Class<?> MEANING = UnsupportedOperationException.class;

    private static int checks = 0;
    private static int wrong = 0;

    private Check() {
    }

    static void due(String call, long want, Asked asked) {
        long[] got = new long[1];
        if (threwAsDue(call, NOTHING, () -> got[0] = asked.answer()) && got[0] != want) {
            tell(call, "answered " + got[0], "due is " + want);
        }
    }

    static void done(String call, Done done) {
        threwAsDue(call, NOTHING, done);
    }

    static void refused(String call, Class<?> want, Done done) {
        threwAsDue(call, want, done);
    }

    static void holds(String what, boolean so) {
        checks++;
        if (!so) {
            tell(what, "does not hold", "it must");
        }
    }

    static void same(String call, Call.Outcome want, Call.Outcome got) {
        checks++;
        if (!got.equals(want)) {
            tell(call, got.toString(), "due is that it " + want);
        }
    }

    /** The class must be the very one: the machine's own exceptions are subclasses. */
    private static boolean threwAsDue(String call, Class<?> want, Done done) {
        checks++;
        Class<?> got = NOTHING;
        try {
            done.run();
        } catch (RuntimeException e) {
            got = e.getClass();
        }
        if (got != want) {
            tell(call, "threw " + name(got), "due is " + name(want));
        }
        return got == want;
    }

    private static String name(Class<?> thrown) {
        return thrown == NOTHING ? "nothing" : thrown.getSimpleName();
    }

    private static void tell(String call, String got, String want) {
        wrong++;
        if (wrong <= 50) {
            System.out.println(call + " " + got + ", " + want);
        }
    }

    static void end() {
        System.out.println(checks + " checks, " + wrong + " wrong");
        System.exit(wrong == 0 && checks > 0 ? 0 : 1);
    }
}
