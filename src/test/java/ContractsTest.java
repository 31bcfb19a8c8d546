import java.util.function.ObjIntConsumer;

/** Promises 24 to 29. */
final class ContractsTest {
    private ContractsTest() {
    }

    static void run() {
        sign();
        signWrong();
        call();
        callStandsStill();
        callWrong();
        running();
        owes();
        owesTogether();
        held();
        heldBehindContract();
        lost();
    }

    private static void sign() {
        TenderHall hall = new TenderHall();
        hall.addTender(1, 0, 0, 2);
        hall.addLot(0, 0);
        hall.addLot(0, 0);
        hall.bid(0, 0, 0, 5, 5);
        hall.bid(1, 0, 1, 5, 5);
        hall.pass(1);
        hall.award(0, 0);
        hall.award(0, 1);
        hall.pass(1);
        Check.fails("24 a day too early", Check.STATE, () -> hall.sign(1));
        hall.pass(1);
        Check.same("24 first", hall.sign(1), 0);
        Check.same("24 second", hall.sign(0), 1);
        Check.fails("24 signed", Check.STATE, () -> hall.sign(0));
        Check.same("24 the price of the right bid", hall.call(0, 5), 5);
    }

    private static void noSuch(String promise, ObjIntConsumer<TenderHall> call) {
        for (int number : new int[] {-1, 1, 60, Integer.MIN_VALUE, Integer.MAX_VALUE}) {
            Check.failsUnchanged(promise + " no such " + number, Check.INDEX, Halls::signed,
                    h -> call.accept(h, number));
        }
    }

    private static void signWrong() {
        noSuch("24", TenderHall::sign);
        Check.failsUnchanged("24 not final", Check.STATE, Halls::awarded, h -> h.sign(0));
        Check.failsUnchanged("24 signed", Check.STATE, Halls::signed, h -> h.sign(0));
        TenderHall open = Halls.complained();
        open.pass(10);
        Check.fails("24 a complaint is open", Check.STATE, () -> open.sign(0));
        open.rule(0, true, 0);
        Check.fails("24 void", Check.STATE, () -> open.sign(0));
        open.pass(4);
        Check.same("24 the one that followed", open.sign(1), 0);
        Check.fails("24 no contract beside it", Check.INDEX, () -> open.running(1));
    }

    private static void call() {
        TenderHall hall = Halls.signed();
        Check.same("25 first", hall.call(0, 1), 1);
        Check.same("25 in all", hall.call(0, 599), 600);
        Check.fails("25 one too much", Check.STATE, () -> hall.call(0, 401));
        Check.same("25 to the price", hall.call(0, 400), 1000);
        Check.fails("25 more than the price", Check.STATE, () -> hall.call(0, 1));
        Check.same("25 the highest price at once", Halls.signedAt(100000).call(0, 100000), 100000);
    }

    private static void callStandsStill() {
        TenderHall hall = Halls.signed();
        hall.call(0, 10);
        hall.appeal(0);
        Check.fails("25 stands still", Check.STATE, () -> hall.call(0, 1));
        hall.rule(0, false, 0);
        Check.same("25 runs on", hall.call(0, 1), 11);
        TenderHall gone = appealed();
        gone.rule(0, true, 0);
        Check.fails("25 void", Check.STATE, () -> gone.call(0, 1));
    }

    private static void callWrong() {
        noSuch("25", (h, contract) -> h.call(contract, 0));
        for (int sum : new int[] {0, -1, 100001, Integer.MIN_VALUE, Integer.MAX_VALUE}) {
            Check.failsUnchanged("25 sum", Check.ARGUMENT, Halls::signed, h -> h.call(0, sum));
            Check.failsUnchanged("25 sum ahead of state", Check.ARGUMENT, ContractsTest::appealed,
                    h -> h.call(0, sum));
        }
        Check.failsUnchanged("25 stands still", Check.STATE, ContractsTest::appealed, h -> h.call(0, 1));
        Check.failsUnchanged("25 too much", Check.STATE, Halls::signed, h -> h.call(0, 1001));
    }

    private static TenderHall appealed() {
        TenderHall hall = Halls.signed();
        hall.call(0, 300);
        hall.appeal(0);
        return hall;
    }

    private static void running() {
        TenderHall hall = Halls.signed();
        Check.same("26 runs", hall.running(0), 2);
        hall.appeal(0);
        Check.same("26 stands still", hall.running(0), 1);
        hall.rule(0, false, 0);
        Check.same("26 runs on", hall.running(0), 2);
        TenderHall gone = appealed();
        gone.rule(0, true, 0);
        Check.same("26 void", gone.running(0), 0);
        noSuch("26", TenderHall::running);
        Check.failsUnchanged("26 none yet", Check.INDEX, Halls::awarded, h -> h.running(0));
    }

    private static void noSuchBidder(String promise, ObjIntConsumer<TenderHall> call) {
        for (int bidder : new int[] {-1, 8, Integer.MIN_VALUE, Integer.MAX_VALUE}) {
            Check.failsUnchanged(promise + " no bidder " + bidder, Check.INDEX, Halls::signed,
                    h -> call.accept(h, bidder));
        }
    }

    private static void owes() {
        TenderHall hall = appealed();
        Check.same("27 not while it stands still", hall.owes(0), 0);
        hall.rule(0, true, 0);
        Check.same("27 what was called", hall.owes(0), 300);
        Check.same("27 not the others", hall.owes(1), 0);
        hall.pass(100);
        Check.same("27 for good", hall.owes(0), 300);
        TenderHall runs = Halls.signed();
        runs.call(0, 1000);
        Check.same("27 not while it runs", runs.owes(0), 0);
        noSuchBidder("27", TenderHall::owes);
    }

    private static void owesTogether() {
        TenderHall hall = new TenderHall();
        hall.addTender(1, 0, 0, 1);
        hall.addLot(0, 0);
        hall.addLot(0, 0);
        for (int lot = 0; lot < 2; lot++) {
            hall.bid(0, 0, lot, 500, 90);
            hall.bid(1, 0, lot, 600, 80);
        }
        hall.pass(1);
        for (int lot = 0; lot < 2; lot++) {
            hall.award(0, lot);
            hall.complain(1, lot, TenderHall.PAPERS);
            hall.rule(lot, false, 0);
        }
        hall.pass(1);
        for (int lot = 0; lot < 2; lot++) {
            hall.sign(lot);
            hall.call(lot, 70 + lot);
            hall.appeal(lot);
        }
        hall.rule(0, true, 0);
        Check.same("27 of one contract", hall.owes(0), 70);
        hall.rule(1, true, 0);
        Check.same("27 of both contracts", hall.owes(0), 141);
        hall.pass(1);
        Check.same("24 the heir signs", hall.sign(2), 2);
        Check.same("25 up to its own price", hall.call(2, 600), 600);
        Check.same("27 the heir owes nothing", hall.owes(1), 0);
    }

    private static void held() {
        TenderHall hall = Halls.sealed();
        hall.addLot(0, 7);
        Check.same("28 nothing", hall.held(0), 0);
        hall.bid(0, 0, 0, 5, 5);
        Check.same("28 sealed", hall.held(0), 100);
        hall.bid(0, 0, 1, 5, 5);
        Check.same("28 together", hall.held(0), 107);
        hall.bid(0, 0, 1, 6, 6);
        Check.same("28 anew", hall.held(0), 107);
        hall.withdraw(0, 0, 0);
        Check.same("28 given back", hall.held(0), 7);
        TenderHall opened = Halls.opened();
        Check.same("28 in", opened.held(2), 100);
        Check.same("28 out for papers", opened.held(3), 0);
        opened.award(0, 0);
        Check.same("28 awarded", opened.held(0), 100);
        Check.same("28 to another", opened.held(1), 100);
        opened.complain(3, 0, TenderHall.EXCLUDED);
        opened.rule(0, true, 0);
        Check.same("28 let in", opened.held(3), 100);
        noSuchBidder("28", TenderHall::held);
    }

    private static void heldBehindContract() {
        TenderHall hall = Halls.signed();
        Check.same("28 signed", hall.held(0) + hall.held(1) + hall.held(2) + hall.held(3), 0);
        hall.appeal(0);
        Check.same("28 stands still", hall.held(1), 0);
        hall.rule(0, true, 0);
        Check.same("28 void, held once more", hall.held(0), 100);
        Check.same("28 of the others, too", hall.held(2), 100);
        Check.same("28 not what is out", hall.held(3), 0);
        hall.pass(4);
        hall.sign(1);
        Check.same("28 signed once more", hall.held(0), 0);
    }

    private static void lost() {
        TenderHall hall = new TenderHall();
        hall.addTender(1, 0, 0, 0);
        hall.addLot(0, 10000);
        hall.addLot(0, 30);
        hall.bid(7, 0, 0, 5, 5);
        hall.bid(7, 0, 1, 5, 5);
        hall.bid(6, 0, 1, 5, 4);
        hall.pass(1);
        hall.award(0, 0);
        hall.pass(1);
        hall.award(0, 1);
        Check.same("29 nothing", hall.lost(7), 0);
        hall.pass(29);
        Check.same("29 one", hall.lost(7), 10000);
        hall.pass(1);
        Check.same("29 together", hall.lost(7), 10030);
        Check.same("29 not yet", hall.lost(6), 0);
        hall.pass(30);
        Check.same("29 the heir's, too", hall.lost(6), 30);
        TenderHall ruled = Halls.complained();
        ruled.rule(0, true, 0);
        Check.same("29 a ruling takes none", ruled.lost(0), 0);
        noSuchBidder("29", TenderHall::lost);
    }
}
