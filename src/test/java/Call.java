/** A call of the face by its name; a boolean is 0 or 1, a call without an answer answers 0. */
record Call(String name, int... numbers) {
    /** What a call answered, or the class that it threw: one of the two is told. */
    record Outcome(long answer, Class<?> thrown) {
        static Outcome of(Check.Asked asked) {
            try {
                return new Outcome(asked.answer(), null);
            } catch (RuntimeException e) {
                return new Outcome(0, e.getClass());
            }
        }

        @Override
        public String toString() {
            return thrown == null ? "answered " + answer : "threw " + thrown.getSimpleName();
        }
    }

    Outcome on(FeedModulus x) {
        return Outcome.of(() -> ask(x));
    }

    Outcome on(Model model) {
        return Outcome.of(() -> model.call(name, number(0), number(1), number(2)));
    }

    private int number(int place) {
        return place < numbers.length ? numbers[place] : 0;
    }

    private long ask(FeedModulus x) {
        int a = number(0);
        int b = number(1);
        int c = number(2);
        switch (name) {
            case "box": return x.box(a, b, c);
            case "cylinder": return x.cylinder(a, b);
            case "face": x.face(a, b, c); return 0;
            case "modulus": return x.modulus(a, b);
            case "join": x.join(a, b, c == 1); return 0;
            case "order": return x.order(a);
            case "riserRow": return x.riserRow(a, b);
            case "riser": return x.riser(a);
            case "cutOff": x.cutOff(a); return 0;
            case "feeder": return x.feeder(a);
            case "unfed": return x.unfed(a);
            case "flowRow": return x.flowRow(a, b);
            case "flow": return x.flow(a);
            case "gate": return x.gate(a);
            case "pattern": return x.pattern(a, b);
            case "molding": x.molding(a, b); return 0;
            case "pack": return x.pack(a, b);
            case "packed": return x.packed(a, b);
            default: throw new Error(name);
        }
    }

    @Override
    public String toString() {
        StringBuilder text = new StringBuilder(name).append('(');
        for (int place = 0; place < numbers.length; place++) {
            text.append(place == 0 ? "" : ", ").append(numbers[place]);
        }
        return text.append(')').toString();
    }
}
