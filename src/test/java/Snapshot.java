import java.util.function.IntConsumer;
import java.util.function.IntSupplier;

/** All that a hall answers, as one text; made for small halls, whose use it ends. */
final class Snapshot {
    private static final int BIDDERS = 8;
    private static final int KINDS = 6;
    private static final int TENDERS = 6;

    private final TenderHall hall;
    private final StringBuilder text = new StringBuilder();

    private Snapshot(TenderHall hall) {
        this.hall = hall;
    }

    static String of(TenderHall hall) {
        Snapshot shot = new Snapshot(hall);
        shot.lookAtAll();
        shot.tryWhatIsHidden();
        // Sealed bids and counted days show themselves only as days go by.
        shot.passIfItCan(10);
        shot.lookAtAll();
        shot.passIfItCan(30);
        shot.lookAtAll();
        return shot.text.toString();
    }

    /** What each call that changes something does from then on, and what comes of them all. */
    static String ofDeeds(TenderHall hall) {
        Snapshot shot = new Snapshot(hall);
        shot.bidOnce();
        shot.complainOnce();
        shot.signAndCall();
        shot.lookAtAll();
        return shot.text.toString();
    }

    private void passIfItCan(int days) {
        text.append("\npass ").append(answer(() -> hall.pass(days)));
    }

    private void bidOnce() {
        text.append("\nbids");
        for (int b = 0; b < BIDDERS; b++) {
            int bidder = b;
            text.append(answer(() -> hall.bid(bidder, 0, 0, 700, 60 + bidder)));
        }
        text.append(answer(() -> hall.withdraw(7, 0, 0))).append(answer(() -> hall.award(0, 0)));
    }

    private void complainOnce() {
        text.append("\ncomplaints");
        for (int i = 0; i < 4 * BIDDERS; i++) {
            int award = i / BIDDERS;
            int bidder = i % BIDDERS;
            text.append(answer(() -> hall.complain(bidder, award, TenderHall.PAPERS)));
        }
        for (int i = 0; i < BIDDERS; i++) {
            int complaint = i;
            text.append(answer(() -> hall.rule(complaint, false, 0))).append(answer(() -> hall.appeal(complaint)));
        }
        text.append(answer(() -> hall.rule(1, true, 0))).append(answer(() -> hall.rule(0, true, 0)));
        for (int i = 0; i < BIDDERS; i++) {
            int complaint = i;
            text.append(answer(() -> hall.rule(complaint, false, 0)));
        }
    }

    private void signAndCall() {
        passIfItCan(5);
        for (int i = 0; i < BIDDERS; i++) {
            int award = i;
            text.append(answer(() -> hall.sign(award)));
        }
        for (int i = 0; i < 3; i++) {
            int contract = i;
            text.append(answer(() -> hall.call(contract, 7)));
        }
    }

    private void lookAtAll() {
        text.append("\nday ").append(hall.today());
        for (int b = 0; b < BIDDERS; b++) {
            text.append(" B").append(b).append(':').append(hall.owes(b))
                    .append(',').append(hall.held(b)).append(',').append(hall.lost(b));
        }
        for (int t = 0; t < TENDERS; t++) {
            int tender = t;
            lookWhile(lot -> lookAtLot(tender, lot));
        }
        lookWhile(this::lookAtAward);
        lookWhile(c -> text.append("\ncomplaint ").append(c).append(": ").append(hall.stateOf(c)));
        lookWhile(c -> text.append("\ncontract ").append(c).append(": ").append(hall.running(c)));
    }

    private void lookAtLot(int tender, int lot) {
        int award = hall.awardOf(tender, lot);
        text.append("\nT").append(tender).append('L').append(lot).append(": ").append(award)
                .append(" anew ").append(hall.winnerAnew(tender, lot));
        for (int place = 0; place < BIDDERS; place++) {
            int bidder = hall.ranked(tender, lot, place);
            if (bidder == TenderHall.NONE) {
                break;
            }
            text.append(" B").append(bidder).append('=').append(hall.score(bidder, tender, lot));
        }
    }

    private void lookAtAward(int award) {
        int winner = hall.winner(award);
        text.append("\naward ").append(award).append(": ").append(winner)
                .append(hall.isVoid(award)).append(hall.isFinal(award)).append(hall.line(award));
    }

    /** What no query tells: papers, sums called, dismissals, and how many tenders and lots there are. */
    private void tryWhatIsHidden() {
        for (int b = 0; b < BIDDERS; b++) {
            for (int kind = 0; kind < KINDS; kind++) {
                int before = hall.paper(b, kind, 5);
                hall.paper(b, kind, before);
                text.append(' ').append(before);
            }
        }
        lookWhile(c -> text.append("\ncalled ").append(c).append(": ").append(hall.running(c))
                .append(answer(() -> hall.call(c, 1))));
        lookWhile(c -> text.append("\nappeal ").append(c).append(": ").append(hall.stateOf(c))
                .append(answer(() -> hall.appeal(c))));
        for (int t = 0; t < TENDERS; t++) {
            int tender = t;
            text.append("\nlot ").append(answer(() -> hall.addLot(tender, 1)));
        }
        text.append("\ntender ").append(answer(() -> hall.addTender(1000, 0, 0, 0)));
    }

    private static String answer(IntSupplier call) {
        try {
            return " " + call.getAsInt();
        } catch (RuntimeException e) {
            return " " + e.getClass().getSimpleName();
        }
    }

    private static void lookWhile(IntConsumer look) {
        for (int i = 0; i < 100; i++) {
            try {
                look.accept(i);
            } catch (IndexOutOfBoundsException e) {
                return;
            }
        }
    }
}
