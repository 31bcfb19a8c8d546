/** Promises 12 to 19, and how awards lapse. */
final class AwardsTest {
    private static final int NONE = TenderHall.NONE;

    private AwardsTest() {
    }

    static void run() {
        award();
        awardWrong();
        sixtyAwards();
        awardOf();
        winner();
        isVoid();
        isFinal();
        isFinalAtOnce();
        winnerAnew();
        winnerAnewFollows();
        line();
        lineStates();
        lineWrong();
        lapse();
        lapseWaits();
        lapseInOrder();
        lapseAtSixty();
        lapseWithoutHeir();
        opensAheadOfLapse();
    }

    private static void award() {
        TenderHall hall = new TenderHall();
        hall.addTender(1, 0, 50, 0);
        hall.addTender(2, 0, 50, 0);
        hall.addLot(0, 0);
        hall.addLot(0, 0);
        hall.addLot(1, 0);
        hall.bid(3, 0, 0, 5, 5);
        hall.bid(4, 0, 0, 5, 6);
        hall.bid(5, 1, 0, 5, 6);
        hall.pass(1);
        Check.same("12 first", hall.award(0, 0), 0);
        Check.same("12 to the best", hall.winner(0), 4);
        Check.fails("12 awarded already", Check.STATE, () -> hall.award(0, 0));
        Check.fails("12 no bid", Check.STATE, () -> hall.award(0, 1));
        Check.fails("12 not opened", Check.STATE, () -> hall.award(1, 0));
        hall.pass(1);
        Check.same("12 second", hall.award(1, 0), 1);
        hall.sign(1);
        Check.fails("12 signed", Check.STATE, () -> hall.award(1, 0));
    }

    private static void awardWrong() {
        for (int[] w : new int[][] {{-1, 0}, {1, 0}, {0, -1}, {0, 1}, {6, 0}, {0, 3}, {Integer.MAX_VALUE, 0}}) {
            Check.failsUnchanged("12 no such one", Check.INDEX, Halls::opened, h -> h.award(w[0], w[1]));
            Check.failsUnchanged("12 no such one, sealed", Check.INDEX, Halls::sealed, h -> h.award(w[0], w[1]));
        }
        Check.failsUnchanged("12 awarded", Check.STATE, Halls::awarded, h -> h.award(0, 0));
        Check.failsUnchanged("12 sealed", Check.STATE, AwardsTest::dayAhead, h -> h.award(0, 0));
        TenderHall nobodyIn = new TenderHall();
        nobodyIn.addTender(1, 1, 5, 5);
        nobodyIn.addLot(0, 5);
        nobodyIn.bid(0, 0, 0, 5, 5);
        nobodyIn.pass(1);
        Check.fails("12 the only bid is out", Check.STATE, () -> nobodyIn.award(0, 0));
    }

    private static TenderHall dayAhead() {
        TenderHall hall = Halls.sealed();
        hall.bid(0, 0, 0, 5, 5);
        hall.pass(2);
        return hall;
    }

    private static void sixtyAwards() {
        TenderHall last = Halls.withAwards(59);
        Check.same("12 the sixtieth", last.award(0, 1), 59);
        TenderHall hall = Halls.withAwards(60);
        Check.same("12 sixty", hall.awardOf(0, 0), 59);
        Check.fails("12 no more than sixty", Check.STATE, () -> hall.award(0, 1));
        Check.fails("12 index ahead of sixty", Check.INDEX, () -> hall.award(0, 2));
        Check.same("12 unchanged", hall.awardOf(0, 1), NONE);
        Check.fails("12 there is no award 60", Check.INDEX, () -> hall.winner(60));
        Check.same("20 the sixtieth complaint", hall.complain(1, 59, TenderHall.PAPERS), 59);
        Check.fails("21 none is upheld at sixty", Check.STATE, () -> hall.rule(59, true, 0));
        Check.same("21 still open", hall.stateOf(59), TenderHall.OPEN);
        Check.same("21 not void", hall.isVoid(59), false);
        Check.isTrue("21 still in", hall.isIn(0, 0, 0));
        Check.fails("21 range ahead of sixty", Check.ARGUMENT, () -> hall.rule(59, true, 101));
        Check.same("21 dismissed at sixty", hall.rule(59, false, 0), NONE);
        Check.same("21 dismissed", hall.stateOf(59), TenderHall.DISMISSED);
        Check.same("7 none lapses at sixty", hall.pass(100), 0);
        Check.isTrue("7 but is final", hall.isFinal(59));
        Check.same("24 and can be signed", hall.sign(59), 0);
    }

    private static void awardOf() {
        TenderHall hall = Halls.opened();
        Check.same("13 none at first", hall.awardOf(0, 0), NONE);
        hall.award(0, 0);
        Check.same("13 the first", hall.awardOf(0, 0), 0);
        hall.complain(2, 0, TenderHall.PAPERS);
        hall.rule(0, true, 0);
        Check.same("13 the one that followed", hall.awardOf(0, 0), 1);
        Check.same("13 signed", signedAward(), 0);
        Check.same("13 sealed", Halls.sealed().awardOf(0, 0), NONE);
        for (int[] w : new int[][] {{-1, 0}, {1, 0}, {0, -1}, {0, 1}, {6, 0}, {0, 3}, {0, Integer.MIN_VALUE}}) {
            Check.failsUnchanged("13 no such one", Check.INDEX, Halls::awarded, h -> h.awardOf(w[0], w[1]));
        }
    }

    private static int signedAward() {
        return Halls.signed().awardOf(0, 0);
    }

    private static void noSuchAward(String promise, java.util.function.ObjIntConsumer<TenderHall> call) {
        for (int award : new int[] {-1, 1, 60, Integer.MIN_VALUE, Integer.MAX_VALUE}) {
            Check.failsUnchanged(promise + " no award " + award, Check.INDEX, Halls::awarded,
                    h -> call.accept(h, award));
        }
        Check.failsUnchanged(promise + " none yet", Check.INDEX, Halls::opened, h -> call.accept(h, 0));
    }

    private static void winner() {
        TenderHall hall = Halls.complained();
        hall.rule(0, true, 0);
        Check.same("14 of a void award, too", hall.winner(0), 0);
        Check.same("14 of the next", hall.winner(1), 1);
        noSuchAward("14", TenderHall::winner);
    }

    private static void isVoid() {
        TenderHall hall = Halls.complained();
        Check.same("15 not yet", hall.isVoid(0), false);
        hall.rule(0, true, 0);
        Check.isTrue("15 upheld", hall.isVoid(0));
        Check.same("15 the next is not", hall.isVoid(1), false);
        hall.pass(34);
        Check.isTrue("15 lapsed", hall.isVoid(1));
        Check.same("15 dismissed", Halls.dismissed().isVoid(0), false);
        Check.same("15 signed", Halls.signed().isVoid(0), false);
        noSuchAward("15", TenderHall::isVoid);
    }

    private static void isFinal() {
        TenderHall hall = Halls.awarded();
        Check.same("16 not at once", hall.isFinal(0), false);
        hall.pass(3);
        Check.same("16 a day too early", hall.isFinal(0), false);
        hall.pass(1);
        Check.isTrue("16 after the standing time", hall.isFinal(0));
        hall.pass(29);
        Check.isTrue("16 until it lapses", hall.isFinal(0));
        hall.pass(1);
        Check.same("16 lapsed", hall.isFinal(0), false);
        Check.same("16 the next, from its own day", hall.isFinal(1), false);
        hall.pass(4);
        Check.isTrue("16 the next", hall.isFinal(1));
        TenderHall open = Halls.complained();
        open.complain(2, 0, TenderHall.PAPERS);
        open.pass(4);
        Check.same("16 two are open", open.isFinal(0), false);
        open.rule(1, false, 0);
        Check.same("16 one is open", open.isFinal(0), false);
        open.rule(0, false, 0);
        Check.isTrue("16 none is open", open.isFinal(0));
        open.appeal(1);
        Check.same("16 appealed", open.isFinal(0), false);
        Check.isTrue("16 signed", Halls.signed().isFinal(0));
        noSuchAward("16", TenderHall::isFinal);
    }

    private static void isFinalAtOnce() {
        TenderHall hall = new TenderHall();
        hall.addTender(1, 0, 0, 0);
        hall.addLot(0, 0);
        hall.bid(0, 0, 0, 5, 5);
        hall.bid(1, 0, 0, 5, 4);
        hall.pass(1);
        hall.award(0, 0);
        Check.isTrue("16 without a standing time", hall.isFinal(0));
        Check.fails("20 without a standing time", Check.STATE, () -> hall.complain(1, 0, 0));
        Check.same("7 lapse without a standing time", hall.pass(29), 0);
        Check.same("7 on its day", hall.pass(1), 1);
    }

    private static void winnerAnew() {
        TenderHall sealed = Halls.sealed();
        sealed.bid(0, 0, 0, 5, 5);
        Check.same("17 sealed", sealed.winnerAnew(0, 0), NONE);
        sealed.pass(3);
        Check.same("17 opened, not awarded", sealed.winnerAnew(0, 0), 0);
        sealed.award(0, 0);
        Check.same("17 awarded", sealed.winnerAnew(0, 0), 0);
        sealed.pass(100);
        Check.same("17 all are out", sealed.winnerAnew(0, 0), NONE);
        Check.same("17 signed", Halls.signed().winnerAnew(0, 0), 0);
        for (int[] w : new int[][] {{-1, 0}, {1, 0}, {0, -1}, {0, 1}, {6, 0}, {0, 3}, {Integer.MAX_VALUE, 0}}) {
            Check.failsUnchanged("17 no such one", Check.INDEX, Halls::awarded, h -> h.winnerAnew(w[0], w[1]));
        }
    }

    private static void winnerAnewFollows() {
        TenderHall hall = Halls.complained();
        hall.rule(0, true, 50);
        Check.same("17 after a lower quality", hall.winnerAnew(0, 0), 1);
        hall.complain(0, 1, TenderHall.QUALITY);
        hall.rule(1, true, 0);
        Check.same("17 the next in turn", hall.winnerAnew(0, 0), 2);
        hall.complain(3, 2, TenderHall.EXCLUDED);
        hall.rule(2, true, 77);
        Check.same("17 let in, with the own quality", hall.winnerAnew(0, 0), 3);
        hall.complain(1, 3, TenderHall.PAPERS);
        hall.rule(3, true, 100);
        Check.same("17 out again", hall.winnerAnew(0, 0), 2);
        hall.pass(34);
        Check.same("17 after a lapse", hall.winnerAnew(0, 0), 0);
        Check.same("17 as it was awarded", hall.winner(hall.awardOf(0, 0)), 0);
    }

    private static void line() {
        TenderHall hall = new TenderHall();
        for (int t = 0; t < 6; t++) {
            hall.addTender(1, 0, 0, 30);
            hall.addLot(t, 0);
            hall.addLot(t, 0);
            hall.addLot(t, 0);
        }
        hall.bid(7, 5, 2, 5, 5);
        hall.bid(6, 4, 1, 5, 5);
        hall.pass(1);
        hall.award(5, 2);
        hall.award(4, 1);
        Check.same("18 19 first", Halls.lineOf(hall, 0), "#0 T5L2 B7");
        Check.same("18 19 second", Halls.lineOf(hall, 1), "#1 T4L1 B6");
        TenderHall many = Halls.withAwards(60);
        Check.same("18 two digits", many.line(59), 11);
        Check.same("19 two digits", Halls.lineOf(many, 59), "#59 T0L0 B0");
        Check.same("19 two digits, void", Halls.lineOf(many, 10), "#10 T0L0 B0V");
        Check.same("19 one digit, void", Halls.lineOf(many, 9), "#9 T0L0 B0V");
    }

    private static void lineStates() {
        TenderHall hall = Halls.dismissed();
        Check.same("18 not final", hall.line(0), 10);
        Check.same("19 not final", Halls.lineOf(hall, 0), "#0 T0L0 B0");
        hall.pass(4);
        Check.same("18 final", hall.line(0), 11);
        Check.same("19 final", hall.lineChar(0, 10), 'F');
        hall.sign(0);
        Check.same("19 signed and final", hall.lineChar(0, 10), 'S');
        hall.appeal(0);
        Check.same("19 signed, not final", Halls.lineOf(hall, 0), "#0 T0L0 B0S");
        hall.rule(0, true, 0);
        Check.same("19 signed and void", Halls.lineOf(hall, 0), "#0 T0L0 B0V");
        Check.same("19 the next", Halls.lineOf(hall, 1), "#1 T0L0 B1");
    }

    private static void lineWrong() {
        noSuchAward("18", TenderHall::line);
        noSuchAward("19", (h, award) -> h.lineChar(award, 0));
        for (int place : new int[] {-1, 10, Integer.MIN_VALUE, Integer.MAX_VALUE}) {
            Check.failsUnchanged("19 no place " + place, Check.INDEX, Halls::awarded, h -> h.lineChar(0, place));
        }
        TenderHall hall = Halls.signed();
        Check.fails("19 behind the sign", Check.INDEX, () -> hall.lineChar(0, 11));
        Check.same("19 first", hall.lineChar(0, 0), '#');
    }

    private static void lapse() {
        TenderHall hall = Halls.awarded();
        hall.pass(33);
        Check.same("lapse: held until then", hall.held(0), 100);
        Check.same("lapse: not lost until then", hall.lost(0), 0);
        Check.same("lapse: one", hall.pass(1), 1);
        Check.isTrue("lapse: void", hall.isVoid(0));
        Check.same("lapse: lost", hall.lost(0), 100);
        Check.same("lapse: not held", hall.held(0), 0);
        Check.same("lapse: out for good", hall.isIn(0, 0, 0), false);
        Check.same("lapse: awarded anew", hall.awardOf(0, 0), 1);
        Check.same("lapse: complaints are heard", hall.complain(0, 1, TenderHall.PAPERS), 0);
        Check.same("lapse: the next from its own day", hall.pass(33), 0);
        hall.rule(0, false, 0);
        Check.same("lapse: the next", hall.pass(1), 1);
        Check.same("lapse: the last", hall.pass(34), 1);
        Check.same("lapse: nobody is left", hall.awardOf(0, 0), NONE);
        Check.same("lapse: each lost it", hall.lost(0) + hall.lost(1) + hall.lost(2), 300);
        Check.same("lapse: one that was out lost none", hall.lost(3), 0);
    }

    private static void lapseWaits() {
        TenderHall hall = Halls.complained();
        Check.same("lapse: not with an open complaint", hall.pass(60), 0);
        hall.rule(0, false, 0);
        Check.same("lapse: not by the ruling itself", hall.isVoid(0), false);
        hall.appeal(0);
        Check.same("lapse: nor with an appeal", hall.pass(5), 0);
        hall.rule(0, false, 0);
        Check.same("lapse: as the next day passes", hall.pass(1), 1);
        Check.same("lapse: awarded on that day", hall.pass(33), 0);
        Check.same("lapse: its heir", hall.pass(1), 1);
        TenderHall signed = Halls.signed();
        Check.same("lapse: not a signed one", signed.pass(100), 0);
        TenderHall late = Halls.awarded();
        late.pass(33);
        Check.same("lapse: signed on the last day", late.sign(0), 0);
        Check.same("lapse: saved", late.pass(100), 0);
        Check.same("lapse: nothing lost", late.lost(0), 0);
    }

    private static void lapseInOrder() {
        TenderHall hall = new TenderHall();
        hall.addTender(1, 0, 0, 0);
        for (int lot = 0; lot < 3; lot++) {
            hall.addLot(0, 1);
            hall.bid(lot, 0, lot, 1, 9);
            hall.bid(lot + 3, 0, lot, 1, 8);
        }
        hall.pass(1);
        hall.award(0, 2);
        hall.award(0, 0);
        hall.award(0, 1);
        Check.same("lapse: three at once", hall.pass(30), 3);
        Check.same("lapse: by rising numbers", hall.awardOf(0, 2), 3);
        Check.same("lapse: then the second", hall.awardOf(0, 0), 4);
        Check.same("lapse: then the third", hall.awardOf(0, 1), 5);
        Check.same("lapse: six in two turns", hall.pass(100), 3);
    }

    private static void lapseAtSixty() {
        TenderHall hall = Halls.withAwards(58);
        hall.award(0, 1);
        hall.pass(60);
        Check.same("lapse: the fifty-eighth is void", hall.isVoid(57), true);
        Check.same("lapse: it made the sixtieth", hall.awardOf(0, 0), 59);
        Check.same("lapse: at sixty the other stays", hall.isVoid(58), false);
        Check.same("lapse: its deposit is not lost", hall.lost(0), 7);
        Check.same("lapse: none any more", hall.pass(100), 0);
        Check.same("lapse: nor later", hall.lost(0) + hall.lost(1), 7);
        Check.isTrue("lapse: it can be signed", hall.sign(58) == 0);
    }

    private static void lapseWithoutHeir() {
        TenderHall hall = new TenderHall();
        hall.addTender(1, 0, 0, 30);
        for (int lot = 0; lot < 3; lot++) {
            hall.addLot(0, 5);
        }
        hall.bid(0, 0, 0, 10, 100);
        hall.bid(1, 0, 0, 10, 50);
        hall.bid(2, 0, 1, 10, 100);
        hall.bid(3, 0, 2, 10, 100);
        hall.pass(1);
        hall.award(0, 1);
        hall.award(0, 2);
        hall.award(0, 0);
        for (int i = 0; i < 56; i++) {
            hall.complain(1, i + 2, TenderHall.QUALITY);
            hall.rule(i, true, 100);
        }
        Check.same("lapse: fifty-nine, two make none", hall.pass(60), 3);
        Check.same("lapse: the last made one", hall.awardOf(0, 0), 59);
        Check.same("lapse: all three lost", hall.lost(0) + hall.lost(2) + hall.lost(3), 15);
    }

    private static void opensAheadOfLapse() {
        TenderHall hall = new TenderHall();
        hall.addTender(1, 0, 0, 0);
        hall.addTender(31, 0, 0, 0);
        hall.addTender(31, 1, 0, 0);
        for (int t = 0; t < 3; t++) {
            hall.addLot(t, t + 1);
            hall.bid(0, t, 0, 5, 5);
            hall.bid(1, t, 0, 5, 4);
        }
        hall.paper(0, 0, 30);
        hall.paper(1, 0, 31);
        hall.pass(1);
        hall.award(0, 0);
        Check.same("day: a tender opens as an award lapses", hall.pass(30), 1);
        Check.isTrue("day: both are opened", hall.isIn(0, 1, 0) && hall.isIn(1, 2, 0));
        Check.same("day: by the papers of that day", hall.isIn(0, 2, 0), false);
        Check.same("day: a lapse is of one lot", hall.isIn(0, 0, 0), false);
        Check.same("day: deposits", hall.held(0), 2);
        Check.same("day: deposits of the other", hall.held(1), 6);
    }
}
