/** Boundaries of how awards lapse: promise 7, Terms on awards and on how a day passes; comments quote the sentence. */
final class LapseEdgesTest {
    private static final int NONE = TenderHall.NONE;

    private LapseEdgesTest() {
    }

    static void run() {
        onItsDay();
        inOneLongPass();
        onlyWhatIsFinal();
        notWhatIsSigned();
        asADayPasses();
        depositLost();
        outForGood();
        awardedAnewOnThatDay();
        nobodyLeft();
        byRisingNumbers();
        openedAheadOfLapses();
        noneAtSixty();
        theSixtiethByALapse();
        nobodyLeftAtSixty();
    }

    /** Terms: "if today is the day of the award, the standing time and 30, added": day before, day, day after. */
    private static void onItsDay() {
        for (int standing : new int[] {0, 1, 30}) {
            TenderHall hall = Halls.row(2, standing);
            Halls.passTo(hall, 1 + standing + 29);
            Check.same("7 the day before", hall.awardOf(0, 0), 0);
            Check.same("7 nothing lost the day before", hall.lost(0), 0);
            Check.same("7 on the day", hall.pass(1), 1);
            Check.same("7 the heir", hall.awardOf(0, 0), 1);
            Check.same("7 the day after", hall.pass(1), 0);
            Check.same("7 not twice", hall.lost(0), 10);
        }
    }

    /** Promise 7: "Returns how many awards lapse in them": heirs, too, when their time comes in the same pass. */
    private static void inOneLongPass() {
        int[] due = {0, 1, 1, 2, 2, 3, 3};
        int[] days = {29, 30, 59, 60, 89, 90, 100};
        for (int i = 0; i < days.length; i++) {
            TenderHall hall = Halls.row(8, 0);
            Check.same("7 lapses in " + days[i] + " days", hall.pass(days[i]), due[i]);
            Check.same("7 the award of that day", hall.awardOf(0, 0), due[i]);
        }
        TenderHall hall = Halls.row(8, 0);
        int all = 0;
        for (int i = 0; i < 10; i++) {
            all += hall.pass(30);
        }
        Check.same("7 eight bids, eight lapses", all, 8);
    }

    /** Terms: "An award that is final": not while a complaint about it is OPEN; "or later": when it is dismissed. */
    private static void onlyWhatIsFinal() {
        TenderHall hall = Halls.row(3, 2);
        hall.complain(1, 0, TenderHall.PAPERS);
        Check.same("7 OPEN on the day", hall.pass(32), 0);
        Check.same("7 OPEN on the day after", hall.pass(1), 0);
        hall.rule(0, false, 0);
        Check.isTrue("16 final behind its day", hall.isFinal(0));
        Check.same("7 or later", hall.pass(1), 1);
        TenderHall upheld = Halls.row(3, 2);
        upheld.complain(1, 0, TenderHall.QUALITY);
        upheld.pass(40);
        upheld.rule(0, true, 100);
        Check.same("7 the one that followed has its own time", upheld.pass(31), 0);
        Check.same("7 and lapses in it", upheld.pass(1), 1);
        Check.same("29 once", upheld.lost(0), 10);
    }

    /** Terms: "and was not signed": signed on the last day, and still final. */
    private static void notWhatIsSigned() {
        TenderHall hall = Halls.row(2, 2);
        hall.pass(31);
        Check.same("24 on the last day", hall.sign(0), 0);
        Check.same("7 signed", hall.pass(100), 0);
        Check.isTrue("16 signed and final", hall.isFinal(0));
        TenderHall gone = Halls.row(2, 2);
        gone.pass(32);
        Check.fails("24 a day too late", Check.STATE, () -> gone.sign(0));
        TenderHall back = Halls.signed();
        back.appeal(0);
        Check.same("7 signed, a complaint OPEN", back.pass(40), 0);
        back.rule(0, true, 0);
        Check.same("7 signed and VOID is over", back.pass(33), 0);
        Check.same("7 the one that followed was not signed", back.pass(1), 1);
        Check.same("29 of the heir alone", back.lost(0) * 1000 + back.lost(1), 100);
    }

    /** Terms: "lapses as a day passes": not by a ruling or a look, and not by days that are refused. */
    private static void asADayPasses() {
        TenderHall hall = Halls.row(2, 2);
        hall.complain(1, 0, TenderHall.PAPERS);
        hall.pass(35);
        hall.rule(0, false, 0);
        Check.fails("7 days 0", Check.ARGUMENT, () -> hall.pass(0));
        Check.fails("7 days 101", Check.ARGUMENT, () -> hall.pass(101));
        Check.same("7 not yet", hall.isVoid(0), false);
        Check.same("24 it can be signed before a day passes", hall.sign(0), 0);
        Check.same("7 and stays", hall.pass(1), 0);
        TenderHall kept = Halls.row(2, 2);
        kept.complain(1, 0, TenderHall.PAPERS);
        kept.pass(35);
        kept.rule(0, false, 0);
        kept.appeal(0);
        Check.same("7 appealed before a day passes", kept.pass(20), 0);
    }

    /** Terms: "the deposit of its bid is lost": 0 and 10000, each of its own lot. */
    private static void depositLost() {
        TenderHall hall = new TenderHall();
        hall.addTender(1, 0, 0, 0);
        hall.addLot(0, 0);
        hall.addLot(0, 10000);
        hall.addLot(0, 1);
        for (int lot = 0; lot < 3; lot++) {
            hall.bid(3, 0, lot, 5, 50);
            hall.bid(4, 0, lot, 5, 40);
        }
        hall.pass(1);
        hall.award(0, 0);
        hall.pass(1);
        hall.award(0, 1);
        hall.pass(1);
        hall.award(0, 2);
        Check.same("28 all are held", hall.held(3), 10001);
        hall.pass(28);
        Check.same("29 a deposit of 0", hall.lost(3), 0);
        Check.same("28 a deposit of 0", hall.held(3), 10001);
        hall.pass(1);
        Check.same("29 a deposit of 10000", hall.lost(3), 10000);
        Check.same("28 not held any more", hall.held(3), 1);
        hall.pass(1);
        Check.same("29 together", hall.lost(3), 10001);
        Check.same("28 nothing is left", hall.held(3), 0);
        Check.same("29 not the others'", hall.lost(4), 0);
        Check.same("28 the others' are held", hall.held(4), 10001);
    }

    /** Terms: "and the bid is out for good": it has no score and no place, and EXCLUDED does not let it in. */
    private static void outForGood() {
        TenderHall hall = Halls.rowWithOutsider(2, 2);
        hall.pass(32);
        Check.same("9 out", hall.isIn(0, 0, 0), false);
        Check.same("10 no score", hall.score(0, 0, 0), NONE);
        Check.same("11 no place", hall.ranked(0, 0, 1), NONE);
        Check.fails("20 not out for lack of papers", Check.STATE, () -> hall.complain(0, 1, TenderHall.EXCLUDED));
        Check.same("20 of another ground", hall.complain(0, 1, TenderHall.QUALITY), 0);
        Check.same("20 the one that lacks papers", hall.complain(7, 1, TenderHall.EXCLUDED), 1);
        hall.rule(1, true, 0);
        hall.pass(32);
        Check.same("9 let in, then lapsed", hall.isIn(7, 0, 0), false);
        Check.fails("20 let in, then lapsed", Check.STATE, () -> hall.complain(7, 3, TenderHall.EXCLUDED));
        Check.same("29 the one let in lost it", hall.lost(7), 10);
    }

    /** Terms: "To award a lot anew is to make an award of it today": its standing time begins on that day. */
    private static void awardedAnewOnThatDay() {
        TenderHall hall = Halls.row(3, 5);
        hall.pass(50);
        Check.same("12 awarded on day 36", hall.winner(1), 1);
        Check.isTrue("16 final on day 41, long ago", hall.isFinal(1));
        Check.same("7 the heir, the day before", hall.pass(19), 0);
        Check.same("7 the heir, on day 71", hall.pass(1), 1);
        hall.pass(4);
        Check.same("16 the next, on day 75", hall.isFinal(2), false);
        Check.same("20 its standing time runs", hall.complain(0, 2, TenderHall.PAPERS), 0);
        hall.pass(1);
        Check.fails("20 its standing time is over", Check.STATE, () -> hall.complain(1, 2, TenderHall.PAPERS));
    }

    /** Terms: "if a bid is in": with the last one out, no award is made. */
    private static void nobodyLeft() {
        TenderHall hall = Halls.rowWithOutsider(1, 0);
        Check.same("7 the only one", hall.pass(30), 1);
        Check.same("13 none", hall.awardOf(0, 0), NONE);
        Check.fails("14 no award was made", Check.INDEX, () -> hall.winner(1));
        Check.fails("12 no bid is in", Check.STATE, () -> hall.award(0, 0));
        Check.same("7 nothing more to lapse", hall.pass(100), 0);
        Check.same("29 once", hall.lost(0), 10);
    }

    /** Terms: "then awards lapse, by rising numbers (those that are made by that are not looked at on this day)". */
    private static void byRisingNumbers() {
        TenderHall hall = new TenderHall();
        for (int t = 0; t < 2; t++) {
            hall.addTender(1, 0, 0, t);
            for (int lot = 0; lot < 3; lot++) {
                hall.addLot(t, 1);
                hall.bid(6, t, lot, 5, 50);
                hall.bid(7, t, lot, 5, 40);
            }
        }
        hall.pass(1);
        hall.award(1, 2);
        hall.award(0, 1);
        hall.award(1, 0);
        hall.award(0, 2);
        hall.award(0, 0);
        Check.same("7 three of five, standing 0", hall.pass(30), 3);
        Check.same("7 award 1 first", hall.awardOf(0, 1), 5);
        Check.same("7 then award 3", hall.awardOf(0, 2), 6);
        Check.same("7 then award 4", hall.awardOf(0, 0), 7);
        Check.same("7 a day later the two of standing 1", hall.pass(1), 2);
        Check.same("7 award 0 first", hall.awardOf(1, 2), 8);
        Check.same("7 then award 2", hall.awardOf(1, 0), 9);
        Check.same("7 those that were made wait", hall.pass(28), 0);
        Check.same("7 till their own day", hall.pass(1), 3);
    }

    /** Terms: "today grows by 1; the tenders with this closing day are opened; then awards lapse". */
    private static void openedAheadOfLapses() {
        TenderHall hall = new TenderHall();
        hall.addTender(1, 0, 0, 0);
        hall.addTender(31, 1, 0, 0);
        hall.addTender(32, 1, 0, 0);
        for (int t = 0; t < 3; t++) {
            hall.addLot(t, 1);
            hall.bid(0, t, 0, 5, 50);
            hall.bid(1, t, 0, 5, 40);
        }
        hall.paper(0, 0, 31);
        hall.pass(1);
        hall.award(0, 0);
        Check.same("7 the day before", hall.pass(29), 0);
        Check.same("9 the day before", hall.isIn(0, 1, 0), false);
        Check.same("7 a lapse and an opening on one day", hall.pass(1), 1);
        Check.isTrue("9 the opening day", hall.isIn(0, 1, 0));
        Check.same("28 out on the opening day", hall.held(1), 2);
        hall.pass(1);
        Check.same("9 the paper has run out a day later", hall.isIn(0, 2, 0), false);
    }

    /** Terms: "(While there are 60 awards, none lapses.)" */
    private static void noneAtSixty() {
        TenderHall hall = Halls.withAwards(60);
        Check.same("7 with 60, on the day", hall.pass(60), 0);
        Check.same("7 with 60, later", hall.pass(100), 0);
        Check.same("29 nothing lost", hall.lost(0), 0);
        Check.same("13 it stands", hall.awardOf(0, 0), 59);
        Check.same("24 and can be signed", hall.sign(59), 0);
        TenderHall room = Halls.withAwards(59);
        Check.same("7 with 59, the day before", room.pass(59), 0);
        Check.same("7 with 59, on the day", room.pass(1), 1);
        Check.same("13 the sixtieth award", room.awardOf(0, 0), 59);
        Check.same("14 to the other", room.winner(59), 1);
        Check.same("7 then none", room.pass(100), 0);
    }

    /** The same sentence, where two would lapse on one day and the first makes the sixtieth award. */
    private static void theSixtiethByALapse() {
        TenderHall hall = Halls.withAwards(58);
        hall.award(0, 1);
        Check.same("7 the first of two", hall.pass(60), 1);
        Check.isTrue("15 award 57 lapsed", hall.isVoid(57));
        Check.same("15 award 58 did not", hall.isVoid(58), false);
        Check.isTrue("16 award 58 is final", hall.isFinal(58));
        Check.same("29 of the one lot", hall.lost(0), 7);
        TenderHall room = Halls.withAwards(57);
        room.award(0, 1);
        Check.same("7 both, with 58", room.pass(60), 2);
        Check.same("29 of both lots", room.lost(0), 18);
        Check.same("13 the fifty-ninth", room.awardOf(0, 0), 58);
        Check.same("13 the sixtieth", room.awardOf(0, 1), 59);
    }

    /** The same sentence, where no bid would be left: with 60 it stays, with 59 it lapses and makes no award. */
    private static void nobodyLeftAtSixty() {
        TenderHall full = Halls.withAwardsOfOne(60);
        Check.same("7 with 60", full.pass(100), 0);
        Check.same("13 it stands", full.awardOf(0, 0), 59);
        TenderHall room = Halls.withAwardsOfOne(59);
        Check.same("7 with 59", room.pass(60), 1);
        Check.same("13 none", room.awardOf(0, 0), NONE);
        Check.same("12 so there is room for one more", room.award(0, 1), 59);
        Check.same("7 which stays, with 60", room.pass(100), 0);
        TenderHall both = Halls.withAwardsOfOne(58);
        both.award(0, 1);
        Check.same("7 both, since the first makes no award", both.pass(60), 2);
    }
}
