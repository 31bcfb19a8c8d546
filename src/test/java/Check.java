import java.util.function.Consumer;
import java.util.function.Supplier;

/** Counts what was checked and prints every answer that is not the one that is due. */
final class Check {
    static final Class<? extends RuntimeException> INDEX = IndexOutOfBoundsException.class;
    static final Class<? extends RuntimeException> ARGUMENT = IllegalArgumentException.class;
    static final Class<? extends RuntimeException> STATE = IllegalStateException.class;

    private static int passed;
    private static int failed;

    private Check() {
    }

    static void same(String what, Object got, Object due) {
        if (got.equals(due)) {
            passed++;
        } else {
            failed++;
            System.out.println(what + " answered " + got + ", due is " + due);
        }
    }

    /** The very class of exception is due, and thrown by the class itself: the machine never throws in it. */
    static void fails(String what, Class<? extends RuntimeException> due, Runnable call) {
        same(what, outcome(call), "throws " + due.getSimpleName());
    }

    static void taken(String what, Runnable call) {
        same(what, outcome(call), "throws nothing");
    }

    /**
     * Makes the same hall anew for each look, with and without the call that throws, and looks whether
     * both answer alike from then on: one hall's 512 calls would not do for all looks.
     */
    static void failsUnchanged(String what, Class<? extends RuntimeException> due,
            Supplier<TenderHall> maker, Consumer<TenderHall> call) {
        TenderHall touched = maker.get();
        fails(what, due, () -> call.accept(touched));
        same(what + ", the hall behind it", Snapshot.of(touched), Snapshot.of(maker.get()));
        TenderHall again = maker.get();
        fails(what, due, () -> call.accept(again));
        same(what + ", what can be done behind it", Snapshot.ofDeeds(again), Snapshot.ofDeeds(maker.get()));
    }

    static void isTrue(String what, boolean got) {
        same(what, got, true);
    }

    static int failures() {
        return failed;
    }

    static String summary() {
        return passed + " passed, " + failed + " failed";
    }

    private static String outcome(Runnable call) {
        try {
            call.run();
            return "throws nothing";
        } catch (RuntimeException e) {
            return told(e);
        }
    }

    /** Tells an exception of the library's or the machine's own apart from one that the class threw. */
    static String told(Throwable thrown) {
        StackTraceElement[] trace = thrown.getStackTrace();
        String place = trace.length == 0 ? "the machine" : trace[0].getClassName();
        boolean isOwn = place.equals("TenderHall") || place.startsWith("TenderHall$");
        return "throws " + thrown.getClass().getSimpleName() + (isOwn ? "" : " in " + place);
    }
}
