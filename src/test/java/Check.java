import java.util.function.Supplier;

/** Counts what was checked and prints every answer that is not the one that is due. */
final class Check {
    static final Class<? extends RuntimeException> INDEX = IndexOutOfBoundsException.class;
    static final Class<? extends RuntimeException> ARGUMENT = IllegalArgumentException.class;
    static final Class<? extends RuntimeException> STATE = IllegalStateException.class;

    private static int passed;
    private static int failed;

    private Check() {
    }

    static void same(String what, Object got, Object due) {
        if (got.equals(due)) {
            passed++;
        } else {
            failed++;
            System.out.println(what + " answered " + got + ", due is " + due);
        }
    }

    /** The very class of exception is due, for a subclass could be one that the machine threw. */
    static void fails(String what, Class<? extends RuntimeException> due, Runnable call) {
        same(what, outcome(call), "throws " + due.getSimpleName());
    }

    /**
     * Makes the same hall twice, lets the call throw on one, and looks whether both answer alike
     * from then on: a single look would use up the 512 calls of a hall too soon.
     */
    static void failsUnchanged(String what, Class<? extends RuntimeException> due,
            Supplier<TenderHall> maker, java.util.function.Consumer<TenderHall> call) {
        TenderHall touched = maker.get();
        fails(what, due, () -> call.accept(touched));
        same(what + ", the hall behind it", Snapshot.of(touched), Snapshot.of(maker.get()));
    }

    static void isTrue(String what, boolean got) {
        same(what, got, true);
    }

    static int failures() {
        return failed;
    }

    static String summary() {
        return passed + " passed, " + failed + " failed";
    }

    private static String outcome(Runnable call) {
        try {
            call.run();
            return "throws nothing";
        } catch (RuntimeException e) {
            return "throws " + e.getClass().getSimpleName();
        }
    }
}
