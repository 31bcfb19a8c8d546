import java.util.function.ObjIntConsumer;

/** Promises 20 to 23. */
final class ComplaintsTest {
    private static final int NONE = TenderHall.NONE;
    private static final int PAPERS = TenderHall.PAPERS;
    private static final int QUALITY = TenderHall.QUALITY;
    private static final int EXCLUDED = TenderHall.EXCLUDED;

    private ComplaintsTest() {
    }

    static void run() {
        complain();
        complainWho();
        complainExcluded();
        complainWrong();
        sixtyComplaints();
        rulePapers();
        ruleQuality();
        ruleExcluded();
        ruleMoot();
        ruleDismissed();
        ruleWrong();
        appeal();
        appealDays();
        appealWrong();
        stateOf();
    }

    private static void complain() {
        TenderHall hall = Halls.awarded();
        Check.same("20 first", hall.complain(1, 0, PAPERS), 0);
        Check.same("20 open", hall.stateOf(0), TenderHall.OPEN);
        hall.pass(3);
        Check.same("20 last day", hall.complain(2, 0, QUALITY), 1);
        Check.same("20 out for papers, of another ground", hall.complain(3, 0, PAPERS), 2);
        TenderHall late = Halls.awarded();
        late.pass(4);
        Check.fails("20 after the standing time", Check.STATE, () -> late.complain(1, 0, PAPERS));
        TenderHall next = Halls.complained();
        next.rule(0, true, 0);
        Check.fails("20 void", Check.STATE, () -> next.complain(2, 0, PAPERS));
        Check.same("20 about another award", next.complain(2, 1, PAPERS), 1);
        Check.same("20 by the earlier winner", next.complain(0, 1, PAPERS), 2);
    }

    private static void complainWho() {
        Check.failsUnchanged("20 the winner", Check.STATE, Halls::awarded, h -> h.complain(0, 0, PAPERS));
        Check.failsUnchanged("20 without a bid", Check.STATE, Halls::awarded, h -> h.complain(4, 0, PAPERS));
        Check.failsUnchanged("20 twice", Check.STATE, Halls::complained, h -> h.complain(1, 0, PAPERS));
        Check.failsUnchanged("20 twice, dismissed", Check.STATE, Halls::dismissed, h -> h.complain(1, 0, QUALITY));
        TenderHall hall = new TenderHall();
        hall.addTender(1, 0, 0, 5);
        hall.addLot(0, 0);
        hall.addLot(0, 0);
        hall.bid(0, 0, 0, 5, 5);
        hall.bid(1, 0, 1, 5, 5);
        hall.pass(1);
        hall.award(0, 0);
        Check.fails("20 a bid for another lot", Check.STATE, () -> hall.complain(1, 0, PAPERS));
    }

    private static void complainExcluded() {
        TenderHall hall = Halls.awarded();
        Check.fails("20 the own bid is in", Check.STATE, () -> hall.complain(1, 0, EXCLUDED));
        Check.same("20 lacks papers", hall.complain(3, 0, EXCLUDED), 0);
        hall.rule(0, true, 0);
        hall.complain(1, 1, PAPERS);
        hall.rule(1, true, 0);
        Check.same("20 let in, then out for good", hall.isIn(3, 0, 0), false);
        Check.fails("20 out for good", Check.STATE, () -> hall.complain(3, 2, EXCLUDED));
        Check.same("20 but of another ground", hall.complain(3, 2, PAPERS), 2);
        TenderHall lapsed = Halls.awarded();
        lapsed.pass(34);
        Check.fails("20 lapsed", Check.STATE, () -> lapsed.complain(0, 1, EXCLUDED));
        Check.same("20 still lacks papers", lapsed.complain(3, 1, EXCLUDED), 0);
    }

    private static void complainWrong() {
        int[][] nobody = {{-1, 0}, {8, 0}, {1, -1}, {1, 1}, {1, 60}, {Integer.MAX_VALUE, 0}, {1, Integer.MIN_VALUE}};
        for (int[] w : nobody) {
            Check.failsUnchanged("20 no such one", Check.INDEX, Halls::awarded, h -> h.complain(w[0], w[1], -1));
        }
        for (int ground : new int[] {-1, 3, Integer.MIN_VALUE, Integer.MAX_VALUE}) {
            Check.failsUnchanged("20 ground", Check.ARGUMENT, Halls::awarded, h -> h.complain(1, 0, ground));
            Check.failsUnchanged("20 ground ahead of state", Check.ARGUMENT, Halls::awarded,
                    h -> h.complain(0, 0, ground));
        }
        Check.failsUnchanged("20 excluded, but in", Check.STATE, Halls::awarded, h -> h.complain(2, 0, EXCLUDED));
    }

    private static void sixtyComplaints() {
        TenderHall hall = Halls.nineAwards();
        for (int i = 0; i < 60; i++) {
            Check.same("20 number", hall.complain(1 + i % 7, i / 7, PAPERS), i);
        }
        Check.fails("20 no more than sixty", Check.STATE, () -> hall.complain(7, 8, PAPERS));
        Check.fails("20 ground ahead of sixty", Check.ARGUMENT, () -> hall.complain(7, 8, 3));
        Check.fails("20 there is no complaint 60", Check.INDEX, () -> hall.stateOf(60));
        Check.same("21 one of them is upheld", hall.rule(59, true, 0), 9);
        Check.fails("20 they still count", Check.STATE, () -> hall.complain(2, 9, PAPERS));
    }

    private static void rulePapers() {
        TenderHall hall = Halls.awarded();
        hall.complain(2, 0, PAPERS);
        hall.pass(2);
        Check.same("21 the next award", hall.rule(0, true, 100), 1);
        Check.isTrue("21 void", hall.isVoid(0));
        Check.same("21 out", hall.isIn(0, 0, 0), false);
        Check.same("21 not held", hall.held(0), 0);
        Check.same("21 not lost", hall.lost(0), 0);
        Check.same("21 the next winner", hall.winner(1), 1);
        hall.pass(3);
        Check.same("21 awarded today, not earlier", hall.isFinal(1), false);
        hall.pass(1);
        Check.isTrue("21 final by its own day", hall.isFinal(1));
        TenderHall alone = new TenderHall();
        alone.addTender(1, 1, 0, 5);
        alone.addLot(0, 4);
        alone.bid(0, 0, 0, 5, 5);
        alone.bid(1, 0, 0, 5, 5);
        alone.paper(0, 0, 1);
        alone.pass(1);
        alone.award(0, 0);
        alone.complain(1, 0, PAPERS);
        Check.same("21 nobody is left", alone.rule(0, true, 0), NONE);
        Check.same("21 no award", alone.awardOf(0, 0), NONE);
        Check.isTrue("21 void all the same", alone.isVoid(0));
    }

    private static void ruleQuality() {
        TenderHall hall = Halls.complained();
        Check.same("21 awarded anew", hall.rule(0, true, 82), 1);
        Check.same("21 to the same", hall.winner(1), 0);
        Check.same("21 its quality", hall.score(0, 0, 0), 50000 + 41000);
        Check.same("21 the quality of another stays", hall.score(1, 0, 0), 45450 + 40000);
        hall.complain(1, 1, QUALITY);
        hall.rule(1, true, 0);
        Check.same("21 the least quality", hall.score(0, 0, 0), 50000);
        Check.same("21 to another", hall.winner(2), 1);
        hall.complain(0, 2, QUALITY);
        hall.rule(2, true, 100);
        Check.same("21 a higher quality", hall.score(1, 0, 0), 45450 + 50000);
        Check.same("21 still in", hall.ranked(0, 0, 2), 0);
    }

    private static void ruleExcluded() {
        TenderHall hall = Halls.awarded();
        hall.complain(3, 0, EXCLUDED);
        Check.same("21 awarded anew", hall.rule(0, true, 1), 1);
        Check.isTrue("21 let in", hall.isIn(3, 0, 0));
        Check.same("21 with the own quality", hall.score(3, 0, 0), 50000 + 50000);
        Check.same("21 to the one who complained", hall.winner(1), 3);
        Check.isTrue("21 the earlier winner stays in", hall.isIn(0, 0, 0));
        Check.same("21 with a score by the new least price", hall.score(0, 0, 0), 45000 + 45000);
        Check.same("21 held once more", hall.held(3), 100);
    }

    private static void ruleMoot() {
        TenderHall hall = new TenderHall();
        hall.addTender(1, 0, 0, 5);
        hall.addLot(0, 0);
        hall.addLot(0, 0);
        for (int b = 0; b < 5; b++) {
            hall.bid(b, 0, 0, 5, 50 - b);
            hall.bid(b, 0, 1, 5, 50 - b);
        }
        hall.pass(1);
        hall.award(0, 0);
        hall.award(0, 1);
        hall.complain(1, 0, QUALITY);
        hall.complain(2, 0, QUALITY);
        hall.complain(1, 1, QUALITY);
        hall.complain(3, 0, QUALITY);
        hall.complain(4, 0, QUALITY);
        hall.rule(4, false, 0);
        hall.rule(1, true, 0);
        int[] due = {TenderHall.MOOT, TenderHall.UPHELD, TenderHall.OPEN, TenderHall.MOOT, TenderHall.DISMISSED};
        for (int c = 0; c < due.length; c++) {
            Check.same("21 state of " + c, hall.stateOf(c), due[c]);
        }
        Check.fails("21 moot", Check.STATE, () -> hall.rule(0, false, 0));
        Check.fails("22 moot", Check.STATE, () -> hall.appeal(0));
        Check.fails("22 upheld", Check.STATE, () -> hall.appeal(1));
        Check.fails("22 void", Check.STATE, () -> hall.appeal(4));
        Check.same("21 the other lot goes on", hall.rule(2, true, 0), 3);
    }

    private static void ruleDismissed() {
        TenderHall hall = Halls.complained();
        hall.complain(2, 0, PAPERS);
        Check.same("21 none is made", hall.rule(0, false, 0), NONE);
        Check.same("21 dismissed", hall.stateOf(0), TenderHall.DISMISSED);
        Check.same("21 the other is open", hall.stateOf(1), TenderHall.OPEN);
        Check.same("21 the award stands", hall.awardOf(0, 0), 0);
        Check.same("21 the quality stays", hall.score(0, 0, 0), 95000);
    }

    private static void noSuchComplaint(String promise, ObjIntConsumer<TenderHall> call) {
        for (int complaint : new int[] {-1, 1, 60, Integer.MIN_VALUE, Integer.MAX_VALUE}) {
            Check.failsUnchanged(promise + " no complaint " + complaint, Check.INDEX, Halls::complained,
                    h -> call.accept(h, complaint));
        }
        Check.failsUnchanged(promise + " none yet", Check.INDEX, Halls::awarded, h -> call.accept(h, 0));
    }

    private static void ruleWrong() {
        noSuchComplaint("21", (h, c) -> h.rule(c, true, -1));
        for (int quality : new int[] {-1, 101, Integer.MIN_VALUE, Integer.MAX_VALUE}) {
            Check.failsUnchanged("21 quality", Check.ARGUMENT, Halls::complained, h -> h.rule(0, true, quality));
            Check.failsUnchanged("21 quality, dismissed", Check.ARGUMENT, Halls::complained,
                    h -> h.rule(0, false, quality));
            Check.failsUnchanged("21 quality ahead of state", Check.ARGUMENT, Halls::dismissed,
                    h -> h.rule(0, true, quality));
        }
        Check.failsUnchanged("21 dismissed", Check.STATE, Halls::dismissed, h -> h.rule(0, true, 0));
        Check.failsUnchanged("21 dismissed again", Check.STATE, Halls::dismissed, h -> h.rule(0, false, 0));
        Check.failsUnchanged("21 upheld", Check.STATE, ComplaintsTest::upheld, h -> h.rule(0, false, 0));
        Check.failsUnchanged("21 upheld again", Check.STATE, ComplaintsTest::upheld, h -> h.rule(0, true, 0));
        TenderHall papers = Halls.awarded();
        papers.complain(1, 0, PAPERS);
        Check.fails("21 quality for the others, too", Check.ARGUMENT, () -> papers.rule(0, true, 101));
    }

    private static TenderHall upheld() {
        TenderHall hall = Halls.complained();
        hall.rule(0, true, 10);
        return hall;
    }

    private static void appeal() {
        TenderHall hall = Halls.dismissed();
        hall.complain(2, 0, PAPERS);
        hall.complain(3, 0, EXCLUDED);
        Check.same("22 three are open", hall.appeal(0), 3);
        Check.same("22 open", hall.stateOf(0), TenderHall.OPEN);
        hall.rule(1, false, 0);
        hall.rule(2, false, 0);
        hall.rule(0, false, 0);
        Check.fails("22 appealed before", Check.STATE, () -> hall.appeal(0));
        Check.same("22 another one", hall.appeal(2), 1);
        Check.same("22 two", hall.appeal(1), 2);
        Check.same("22 upheld behind the appeal", hall.rule(2, true, 0), 1);
        Check.same("22 let in", hall.winner(1), 3);
        Check.same("22 the other is moot", hall.stateOf(1), TenderHall.MOOT);
        Check.same("22 the dismissed one stays", hall.stateOf(0), TenderHall.DISMISSED);
    }

    private static void appealDays() {
        TenderHall hall = Halls.complained();
        hall.complain(2, 0, PAPERS);
        hall.pass(2);
        hall.rule(0, false, 0);
        hall.rule(1, false, 0);
        hall.pass(10);
        Check.same("22 ten days ago", hall.appeal(0), 1);
        hall.rule(0, false, 0);
        hall.pass(1);
        Check.fails("22 eleven days ago", Check.STATE, () -> hall.appeal(1));
        Check.same("22 unchanged", hall.stateOf(1), TenderHall.DISMISSED);
    }

    private static void appealWrong() {
        noSuchComplaint("22", TenderHall::appeal);
        Check.failsUnchanged("22 open", Check.STATE, Halls::complained, h -> h.appeal(0));
        Check.failsUnchanged("22 upheld", Check.STATE, ComplaintsTest::upheld, h -> h.appeal(0));
        TenderHall lapsed = Halls.complained();
        lapsed.pass(32);
        lapsed.rule(0, false, 0);
        lapsed.pass(2);
        Check.isTrue("22 lapsed", lapsed.isVoid(0));
        Check.fails("22 about a lapsed award", Check.STATE, () -> lapsed.appeal(0));
    }

    private static void stateOf() {
        Check.same("23 open", Halls.complained().stateOf(0), 0);
        Check.same("23 upheld", upheld().stateOf(0), 1);
        Check.same("23 dismissed", Halls.dismissed().stateOf(0), 2);
        TenderHall hall = Halls.complained();
        hall.complain(2, 0, PAPERS);
        hall.rule(1, true, 0);
        Check.same("23 moot", hall.stateOf(0), 3);
        noSuchComplaint("23", TenderHall::stateOf);
    }
}
