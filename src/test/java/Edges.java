import java.util.List;
import java.util.function.Consumer;
import java.util.function.Supplier;

/** Looks at a hall on both sides of a boundary that a sentence of the document names. */
final class Edges {
    /** A call of which one number is looked at. */
    interface Call {
        void on(TenderHall hall, int value);
    }

    private Edges() {
    }

    /** The ends of a range are taken; what lies just outside, or far away, is refused and changes nothing. */
    static void range(String sentence, int least, int most, Class<? extends RuntimeException> due,
            Supplier<TenderHall> maker, Call call) {
        for (int value : new int[] {least, least + 1, most - 1, most}) {
            if (value >= least && value <= most) {
                taken(sentence + ", " + value, maker, hall -> call.on(hall, value));
            }
        }
        for (int value : new int[] {least - 1, most + 1, Integer.MIN_VALUE, Integer.MAX_VALUE}) {
            refused(sentence + ", " + value, due, maker, hall -> call.on(hall, value));
        }
    }

    /** So many things are there, numbered from 0: the first and the last are found, others are not. */
    static void numbers(String sentence, int count, Supplier<TenderHall> maker, Call call) {
        range(sentence, 0, count - 1, Check.INDEX, maker, call);
    }

    static void taken(String sentence, Supplier<TenderHall> maker, Consumer<TenderHall> call) {
        TenderHall hall = maker.get();
        Check.taken(sentence, () -> call.accept(hall));
    }

    static void refused(String sentence, Class<? extends RuntimeException> due, Supplier<TenderHall> maker,
            Consumer<TenderHall> call) {
        Check.failsUnchanged(sentence, due, maker, call);
    }

    /** Calls that one sentence refuses in the same way, each on a hall of its own. */
    static void refusedAll(String sentence, Class<? extends RuntimeException> due, Supplier<TenderHall> maker,
            List<Consumer<TenderHall>> calls) {
        for (int i = 0; i < calls.size(); i++) {
            refused(sentence + ", case " + i, due, maker, calls.get(i));
        }
    }
}
