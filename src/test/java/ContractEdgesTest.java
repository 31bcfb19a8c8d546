import java.util.List;

/** Boundaries of promises 24 to 29, and of Terms on contracts and deposits; each comment quotes its sentence. */
final class ContractEdgesTest {
    private static final int PAPERS = TenderHall.PAPERS;

    private ContractEdgesTest() {
    }

    static void run() {
        whichOne();
        signFromTheFinalDay();
        signNotFinal();
        signOnce();
        sumRange();
        callListedFirst();
        callUpToThePrice();
        callWhileItRuns();
        runningStates();
        owesWhatWasCalled();
        owesForSeveral();
        heldWhileThere();
        heldFromTheOpening();
        heldWithoutContract();
        lostByLapseAlone();
    }

    /** Promises 24: "an award"; 25, 26: "a contract"; 27 to 29: "bidder: 0 to 7". */
    private static void whichOne() {
        Edges.numbers("24 award, of two", 2, ContractEdgesTest::twoFinal, TenderHall::sign);
        Edges.numbers("25 contract, of two", 2, ContractEdgesTest::twoSigned, (h, v) -> h.call(v, 1));
        Edges.numbers("26 contract, of two", 2, ContractEdgesTest::twoSigned, TenderHall::running);
        Edges.numbers("27 bidder: 0 to 7", 8, ContractEdgesTest::twoSigned, TenderHall::owes);
        Edges.numbers("28 bidder: 0 to 7", 8, ContractEdgesTest::twoSigned, TenderHall::held);
        Edges.numbers("29 bidder: 0 to 7", 8, ContractEdgesTest::twoSigned, TenderHall::lost);
        Edges.refusedAll("25 26 without contracts", Check.INDEX, ContractEdgesTest::twoFinal, List.of(
                h -> h.call(0, 1), h -> h.call(0, 0), h -> h.running(0)));
        Edges.refused("24 without awards", Check.INDEX, Halls::opened, h -> h.sign(0));
    }

    /** Two lots of two bidders; both awards went to bidder 0 on day 1, have a complaint each, final on day 3. */
    private static TenderHall twoFinal() {
        TenderHall hall = new TenderHall();
        hall.addTender(1, 0, 0, 2);
        for (int lot = 0; lot < 2; lot++) {
            hall.addLot(0, 10);
            hall.bid(0, 0, lot, 500, 50);
            hall.bid(1, 0, lot, 600, 40);
        }
        hall.pass(1);
        for (int award = 0; award < 2; award++) {
            hall.award(0, award);
            hall.complain(1, award, PAPERS);
            hall.rule(award, false, 0);
        }
        hall.pass(2);
        return hall;
    }

    /** Contract 0 is about award 1, contract 1 about award 0. */
    private static TenderHall twoSigned() {
        TenderHall hall = twoFinal();
        hall.sign(1);
        hall.sign(0);
        return hall;
    }

    private static TenderHall appealed() {
        TenderHall hall = twoSigned();
        hall.call(0, 70);
        hall.call(1, 7);
        hall.appeal(1);
        return hall;
    }

    private static TenderHall voided() {
        TenderHall hall = appealed();
        hall.rule(1, true, 0);
        return hall;
    }

    /** Promise 24: "IllegalStateException if it is not final": the day before, the day, and until it lapses. */
    private static void signFromTheFinalDay() {
        for (int standing : new int[] {0, 1, 30}) {
            if (standing > 0) {
                Edges.refused("24 the day before", Check.STATE,
                        () -> Halls.onDay(Halls.row(2, standing), standing), h -> h.sign(0));
            }
            Edges.taken("24 the day itself", () -> Halls.onDay(Halls.row(2, standing), 1 + standing),
                    h -> h.sign(0));
            Edges.taken("24 the day ahead of the lapse",
                    () -> Halls.onDay(Halls.row(2, standing), 30 + standing), h -> h.sign(0));
            Edges.refused("24 the day of the lapse", Check.STATE,
                    () -> Halls.onDay(Halls.row(2, standing), 31 + standing), h -> h.sign(0));
        }
    }

    /** The same sentence: a complaint is OPEN, or the award is VOID. */
    private static void signNotFinal() {
        Edges.refused("24 a complaint is OPEN", Check.STATE,
                () -> Halls.onDay(Halls.complained(), 7), h -> h.sign(0));
        Edges.refused("24 OPEN by an appeal", Check.STATE, ContractEdgesTest::finalAndAppealed, h -> h.sign(0));
        Edges.refused("24 VOID", Check.STATE, ContractEdgesTest::voided, h -> h.sign(0));
        TenderHall hall = Halls.onDay(Halls.complained(), 7);
        Check.fails("24 not yet", Check.STATE, () -> hall.sign(0));
        hall.rule(0, false, 0);
        Check.same("24 dismissed, on that very day", hall.sign(0), 0);
    }

    private static TenderHall finalAndAppealed() {
        TenderHall hall = twoFinal();
        hall.appeal(0);
        return hall;
    }

    /** Promise 24: "or is signed"; "Returns the number of the contract." */
    private static void signOnce() {
        Edges.refusedAll("24 is signed", Check.STATE, ContractEdgesTest::twoSigned, List.of(
                h -> h.sign(0), h -> h.sign(1)));
        Edges.refused("24 is signed, a complaint OPEN", Check.STATE, ContractEdgesTest::appealed, h -> h.sign(0));
        TenderHall hall = twoFinal();
        Check.same("24 the first number", hall.sign(1), 0);
        Check.fails("24 signed", Check.STATE, () -> hall.sign(1));
        Check.same("24 the second number", hall.sign(0), 1);
        TenderHall next = voided();
        Check.fails("24 the one that followed, too early", Check.STATE, () -> next.sign(2));
        next.pass(2);
        Check.same("24 the one that followed", next.sign(2), 2);
        Check.fails("24 void contracts keep their award", Check.STATE, () -> next.sign(0));
    }

    /** Promise 25: "sum: 1 to 100000". */
    private static void sumRange() {
        Edges.range("25 sum: 1 to 100000", 1, 100000, Check.ARGUMENT, () -> Halls.signedAt(100000),
                (h, v) -> h.call(0, v));
    }

    /** Promise 25: no such contract, then the sum, then the state. */
    private static void callListedFirst() {
        Edges.refusedAll("25 no such one ahead of the sum", Check.INDEX, ContractEdgesTest::twoSigned, List.of(
                h -> h.call(2, 0), h -> h.call(-1, 100001), h -> h.call(2, 501), h -> h.call(60, -1)));
        Edges.refusedAll("25 the sum ahead of standing still", Check.ARGUMENT, ContractEdgesTest::appealed, List.of(
                h -> h.call(0, 0), h -> h.call(0, 100001)));
        Edges.refusedAll("25 the sum ahead of void", Check.ARGUMENT, ContractEdgesTest::voided, List.of(
                h -> h.call(0, 0), h -> h.call(0, 100001)));
        Edges.refused("25 the sum ahead of the price", Check.ARGUMENT, ContractEdgesTest::twoSigned,
                h -> h.call(0, 100001));
    }

    /** Promise 25: "or more than its price would be called": at once, and added. */
    private static void callUpToThePrice() {
        Edges.taken("25 the price at once", ContractEdgesTest::twoSigned, h -> h.call(0, 500));
        Edges.refused("25 one more at once", Check.STATE, ContractEdgesTest::twoSigned, h -> h.call(0, 501));
        Edges.refused("25 far more at once", Check.STATE, ContractEdgesTest::twoSigned, h -> h.call(0, 100000));
        TenderHall hall = twoSigned();
        Check.same("25 in all", hall.call(0, 499), 499);
        Check.fails("25 one too much, added", Check.STATE, () -> hall.call(0, 2));
        Check.same("25 to the price, added", hall.call(0, 1), 500);
        Check.fails("25 nothing is left", Check.STATE, () -> hall.call(0, 1));
        Check.same("25 the other contract is full yet", hall.call(1, 500), 500);
        TenderHall full = Halls.signedAt(100000);
        Check.same("25 the highest price", full.call(0, 100000), 100000);
        Check.fails("25 above the highest price", Check.STATE, () -> full.call(0, 100000));
        TenderHall least = Halls.signedAt(1);
        Check.fails("25 above the least price", Check.STATE, () -> least.call(0, 2));
        Check.same("25 the least price", least.call(0, 1), 1);
    }

    /** Promise 25: "if it is void, or stands still". */
    private static void callWhileItRuns() {
        Edges.refused("25 stands still", Check.STATE, ContractEdgesTest::appealed, h -> h.call(0, 1));
        Edges.taken("25 the other one runs", ContractEdgesTest::appealed, h -> h.call(1, 1));
        Edges.refused("25 void", Check.STATE, ContractEdgesTest::voided, h -> h.call(0, 1));
        Edges.taken("25 the other one runs on", ContractEdgesTest::voided, h -> h.call(1, 1));
        TenderHall hall = appealed();
        Check.fails("25 stands still", Check.STATE, () -> hall.call(0, 430));
        hall.rule(1, false, 0);
        Check.same("25 what was called stays", hall.call(0, 430), 500);
    }

    /** Promise 26: "0 if it is void, 1 if it stands still, 2 if it runs". */
    private static void runningStates() {
        TenderHall hall = twoSigned();
        Check.same("26 both run", hall.running(0) * 10 + hall.running(1), 22);
        hall.appeal(1);
        Check.same("26 the one stands still", hall.running(0) * 10 + hall.running(1), 12);
        hall.appeal(0);
        Check.same("26 both stand still", hall.running(0) * 10 + hall.running(1), 11);
        hall.rule(0, false, 0);
        Check.same("26 the other runs once more", hall.running(0) * 10 + hall.running(1), 12);
        hall.rule(1, true, 0);
        Check.same("26 the one is void", hall.running(0) * 10 + hall.running(1), 2);
        hall.pass(100);
        Check.same("26 for good", hall.running(0) * 10 + hall.running(1), 2);
        TenderHall many = Halls.row(3, 2);
        many.rule(many.complain(1, 0, PAPERS), false, 0);
        many.rule(many.complain(2, 0, PAPERS), false, 0);
        many.pass(2);
        many.sign(0);
        many.appeal(0);
        many.appeal(1);
        many.rule(0, false, 0);
        Check.same("26 one of two is still OPEN", many.running(0), 1);
        many.rule(1, false, 0);
        Check.same("26 none is OPEN", many.running(0), 2);
    }

    /** Terms: "What was called on contracts that are void now, the bidder owes." */
    private static void owesWhatWasCalled() {
        Check.same("27 nothing while both run", twoSigned().owes(0), 0);
        Check.same("27 nothing while one stands still", appealed().owes(0), 0);
        Check.same("27 what was called on the void one", voided().owes(0), 70);
        Check.same("27 not who complained", voided().owes(1), 0);
        TenderHall none = twoSigned();
        none.appeal(1);
        none.rule(1, true, 0);
        Check.same("27 void, nothing called", none.owes(0), 0);
        TenderHall all = twoSigned();
        all.call(0, 500);
        all.appeal(1);
        all.rule(1, true, 0);
        Check.same("27 void, its whole price called", all.owes(0), 500);
        TenderHall refused = voided();
        Check.fails("25 void", Check.STATE, () -> refused.call(0, 1));
        Check.same("27 a refused call adds nothing", refused.owes(0), 70);
    }

    /** The same sentence, for several contracts of a bidder, and for the one that follows. */
    private static void owesForSeveral() {
        TenderHall hall = voided();
        hall.appeal(0);
        hall.rule(0, true, 0);
        Check.same("27 of both, together", hall.owes(0), 77);
        hall.pass(2);
        hall.sign(hall.awardOf(0, 0));
        hall.sign(hall.awardOf(0, 1));
        hall.call(2, 600);
        Check.same("27 the heir's run", hall.owes(1), 0);
        Check.same("27 what was owed stays", hall.owes(0), 77);
    }

    /** Terms: "The deposit of a bid is held while the bid is there": made, anew, taken back. */
    private static void heldWhileThere() {
        TenderHall hall = new TenderHall();
        hall.addTender(5, 0, 0, 0);
        hall.addLot(0, 0);
        hall.addLot(0, 10000);
        Check.same("28 no bid", hall.held(7), 0);
        hall.bid(7, 0, 0, 5, 5);
        Check.same("28 a deposit of 0", hall.held(7), 0);
        hall.bid(7, 0, 1, 5, 5);
        Check.same("28 a deposit of 10000", hall.held(7), 10000);
        hall.bid(7, 0, 1, 6, 5);
        Check.same("28 anew, held once", hall.held(7), 10000);
        Check.same("28 of each bidder alone", hall.held(6), 0);
        hall.pass(4);
        hall.withdraw(7, 0, 1);
        Check.same("28 taken back, the day before the opening", hall.held(7), 0);
    }

    /** The same sentence: "is not out": from the opening day on, for lack of papers. */
    private static void heldFromTheOpening() {
        TenderHall hall = new TenderHall();
        hall.addTender(3, 1, 0, 5);
        hall.addLot(0, 10);
        hall.paper(0, 0, 3);
        hall.bid(0, 0, 0, 5, 5);
        hall.bid(1, 0, 0, 5, 5);
        hall.pass(2);
        Check.same("28 the day before, all", hall.held(0) + hall.held(1), 20);
        hall.pass(1);
        Check.same("28 the opening day, out", hall.held(1), 0);
        Check.same("28 the opening day, in", hall.held(0), 10);
        hall.award(0, 0);
        hall.complain(1, 0, TenderHall.EXCLUDED);
        Check.same("28 a complaint alone holds nothing", hall.held(1), 0);
        hall.rule(0, true, 0);
        Check.same("28 let in", hall.held(1), 10);
        hall.complain(1, 1, PAPERS);
        hall.rule(1, true, 0);
        Check.same("28 out for good", hall.held(0), 0);
        Check.same("29 and not lost", hall.lost(0), 0);
    }

    /** Terms: "and its lot has no contract that is not void (running or standing still)". */
    private static void heldWithoutContract() {
        TenderHall hall = twoFinal();
        Check.same("28 awarded and final, not signed", hall.held(0) * 100 + hall.held(1), 2020);
        hall.sign(0);
        Check.same("28 one lot signed, of all its bidders", hall.held(0) * 100 + hall.held(1), 1010);
        hall.appeal(0);
        Check.same("28 standing still", hall.held(0) * 100 + hall.held(1), 1010);
        hall.rule(0, true, 0);
        Check.same("28 void: held again, but for the one that is out", hall.held(0) * 100 + hall.held(1), 1020);
        hall.pass(2);
        hall.sign(2);
        Check.same("28 signed anew", hall.held(0) * 100 + hall.held(1), 1010);
        hall.sign(1);
        Check.same("28 both signed", hall.held(0) * 100 + hall.held(1), 0);
        hall.pass(100);
        Check.same("28 for good", hall.held(0) * 100 + hall.held(1), 0);
        TenderHall quality = Halls.signed();
        quality.appeal(0);
        quality.rule(0, true, 0);
        Check.same("28 void by QUALITY: its own is held, too", quality.held(0), 100);
        Check.same("28 and the others'", quality.held(1) + quality.held(2), 200);
        Check.same("28 but not what lacks papers", quality.held(3), 0);
    }

    /** Promise 29: "the deposits that a bidder has lost": by a lapse alone, on its day. */
    private static void lostByLapseAlone() {
        TenderHall hall = Halls.row(2, 2);
        hall.pass(31);
        Check.same("29 the day before", hall.lost(0), 0);
        Check.same("28 the day before", hall.held(0), 10);
        hall.pass(1);
        Check.same("29 the day itself", hall.lost(0), 10);
        Check.same("28 the day itself", hall.held(0), 0);
        hall.pass(31);
        Check.same("29 the heir, the day before", hall.lost(1), 0);
        hall.pass(1);
        Check.same("29 the heir, the day itself", hall.lost(1), 10);
        Check.same("29 each its own", hall.lost(0), 10);
        Check.same("29 not by PAPERS", voided().lost(0), 0);
        TenderHall taken = Halls.sealed();
        taken.bid(0, 0, 0, 5, 5);
        taken.withdraw(0, 0, 0);
        Check.same("29 not by taking back", taken.lost(0), 0);
        TenderHall signed = Halls.row(2, 2);
        signed.pass(2);
        signed.sign(0);
        signed.pass(100);
        Check.same("29 not when it was signed", signed.lost(0), 0);
    }
}
