/** Counts what holds and what does not, and tells the latter. */
final class Checks {
    /** A call of the face, whose answer is looked at. */
    interface Call {
        Object on(Nomdeplume house);
    }

    /** Builds a house anew, by the same calls each time. */
    interface Plan {
        Nomdeplume build();
    }

    private int passed;
    private int failed;

    /** The answer as a text, or throws. and the exact class of what was thrown. */
    static String answer(Nomdeplume house, Call call) {
        try {
            return String.valueOf(call.on(house));
        } catch (RuntimeException e) {
            return "throws." + e.getClass().getName();
        }
    }

    void is(String what, Object want, Object got) {
        if (String.valueOf(want).equals(String.valueOf(got))) {
            passed++;
        } else {
            failed++;
            System.out.println(what + ": answered " + got + ", due is " + want);
        }
    }

    /**
     * The call throws just this, and leaves a house in which no later call answers otherwise. The
     * snapshot sees what no probe can: a probe has no calls left for all of a full house.
     */
    void refused(String what, Plan plan, Class<?> due, Call call) {
        Nomdeplume asked = plan.build();
        String before = Snapshot.of(asked);
        is(what, thrown(due), answer(asked, call));
        is(what + ", no field changed", before, Snapshot.of(asked));
        is(what + ", nothing changed", Probe.of(plan.build()), Probe.of(asked));
    }

    /** On a house that goes on: the call throws just this, and no field changes. */
    void throwsHere(String what, Nomdeplume house, Class<?> due, Call call) {
        String before = Snapshot.of(house);
        is(what, thrown(due), answer(house, call));
        is(what + ", no field changed", before, Snapshot.of(house));
    }

    static String thrown(Class<?> due) {
        return "throws." + due.getName();
    }

    int failed() {
        return failed;
    }

    void close(String suite) {
        System.out.println(suite + ": " + passed + " passed, " + failed + " failed");
        if (failed != 0) {
            System.exit(1);
        }
    }
}
