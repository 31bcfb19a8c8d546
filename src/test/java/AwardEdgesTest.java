import java.util.List;

/** Boundaries of promises 12 to 19, and of Terms on awards; each comment quotes its sentence. */
final class AwardEdgesTest {
    private static final int NONE = TenderHall.NONE;

    private AwardEdgesTest() {
    }

    static void run() {
        whichLotOrAward();
        awardFromTheOpening();
        oneAwardThatIsNotVoid();
        noBidIsIn();
        sixtyAwards();
        sixtiethByRuling();
        awardNumbers();
        awardOfNone();
        winnerStays();
        voidOnItsDay();
        finalOnItsDay();
        finalWithoutOpenComplaint();
        winnerAnewNone();
        winnerAnewInOrder();
        lineLengths();
        lineLastSign();
        lineChars();
        lineOfEveryLot();
    }

    /** Promises 12, 13, 17: "a tender", "a lot of it"; 14, 15, 16, 18, 19: "an award". */
    private static void whichLotOrAward() {
        Edges.numbers("12 tender, of two", 2, Halls::fourOpened, (h, v) -> h.award(v, 1));
        Edges.numbers("12 lot, of two", 2, Halls::fourOpened, (h, v) -> h.award(1, v));
        Edges.numbers("13 tender, of two", 2, Halls::fourOpened, (h, v) -> h.awardOf(v, 1));
        Edges.numbers("13 lot, of two", 2, Halls::fourOpened, (h, v) -> h.awardOf(1, v));
        Edges.numbers("17 tender, of two", 2, Halls::fourOpened, (h, v) -> h.winnerAnew(v, 1));
        Edges.numbers("17 lot, of two", 2, Halls::fourOpened, (h, v) -> h.winnerAnew(1, v));
        Edges.numbers("14 award, of two", 2, AwardEdgesTest::twoAwards, TenderHall::winner);
        Edges.numbers("15 award, of two", 2, AwardEdgesTest::twoAwards, TenderHall::isVoid);
        Edges.numbers("16 award, of two", 2, AwardEdgesTest::twoAwards, TenderHall::isFinal);
        Edges.numbers("18 award, of two", 2, AwardEdgesTest::twoAwards, TenderHall::line);
        Edges.numbers("19 award, of two", 2, AwardEdgesTest::twoAwards, (h, v) -> h.lineChar(v, 0));
        Edges.refusedAll("14 15 16 18 19 without awards", Check.INDEX, Halls::fourOpened, List.of(
                h -> h.winner(0), h -> h.isVoid(0), h -> h.isFinal(0), h -> h.line(0), h -> h.lineChar(0, 0)));
    }

    private static TenderHall twoAwards() {
        TenderHall hall = Halls.fourOpened();
        hall.award(1, 1);
        hall.award(0, 0);
        return hall;
    }

    /** Promise 12: "IllegalStateException if the tender is not opened": the day before, the day, the day after. */
    private static void awardFromTheOpening() {
        for (int day = 0; day < 6; day++) {
            int today = day;
            if (day < 3) {
                Edges.refused("12 not opened, day " + day, Check.STATE,
                        () -> Halls.onDay(Halls.fourLots(), today), h -> h.award(0, 0));
            } else {
                Check.same("12 opened, day " + day, Halls.onDay(Halls.fourLots(), today).award(0, 0), 0);
            }
        }
        Edges.refusedAll("12 no such one ahead of the state", Check.INDEX, Halls::fourLots, List.of(
                h -> h.award(2, 0), h -> h.award(-1, 0), h -> h.award(0, 2), h -> h.award(0, -1)));
    }

    /** Promise 12: "the lot has an award that is not VOID". Terms: "A lot has at most one award that is not VOID." */
    private static void oneAwardThatIsNotVoid() {
        Edges.refused("12 awarded", Check.STATE, AwardEdgesTest::twoAwards, h -> h.award(0, 0));
        Check.same("12 another lot of it", twoAwards().award(0, 1), 2);
        Check.same("12 a lot of the other", twoAwards().award(1, 0), 2);
        Edges.refused("12 awarded and final", Check.STATE, () -> Halls.onDay(Halls.dismissed(), 7),
                h -> h.award(0, 0));
        Edges.refused("12 signed", Check.STATE, Halls::signed, h -> h.award(0, 0));
        Edges.refused("12 awarded anew by a ruling", Check.STATE, AwardEdgesTest::ruledOnce, h -> h.award(0, 0));
        Edges.refused("12 awarded anew by a lapse", Check.STATE,
                () -> Halls.onDay(Halls.awarded(), 37), h -> h.award(0, 0));
    }

    private static TenderHall ruledOnce() {
        TenderHall hall = Halls.complained();
        hall.rule(0, true, 0);
        return hall;
    }

    /** Promise 12: "no bid is in": none was made, all taken back, all out for papers, all out for good. */
    private static void noBidIsIn() {
        Edges.refused("12 none was made", Check.STATE, () -> Halls.onDay(Halls.sealed(), 3),
                h -> h.award(0, 0));
        Edges.refused("12 all taken back", Check.STATE, AwardEdgesTest::takenBack, h -> h.award(0, 0));
        Edges.refused("12 all out for papers", Check.STATE, () -> onlyOutsider(0), h -> h.award(0, 0));
        Edges.refused("12 all lapsed", Check.STATE, () -> onlyOutsider(1), h -> h.award(0, 0));
        Edges.refused("12 the one out by PAPERS", Check.STATE, AwardEdgesTest::ruledOut, h -> h.award(0, 0));
    }

    private static TenderHall takenBack() {
        TenderHall hall = Halls.sealed();
        hall.bid(0, 0, 0, 5, 5);
        hall.withdraw(0, 0, 0);
        hall.pass(3);
        return hall;
    }

    /** Bidder 7 is out for lack of papers; so many others have lapsed, one after the other. */
    private static TenderHall onlyOutsider(int others) {
        TenderHall hall = new TenderHall();
        hall.addTender(1, 1, 0, 0);
        hall.addLot(0, 10);
        hall.bid(7, 0, 0, 5, 5);
        for (int b = 0; b < others; b++) {
            hall.paper(b, 0, 1);
            hall.bid(b, 0, 0, 5, 5);
        }
        hall.pass(1);
        if (others > 0) {
            hall.award(0, 0);
            hall.pass(30 * others);
        }
        return hall;
    }

    private static TenderHall ruledOut() {
        TenderHall hall = Halls.rowWithOutsider(1, 5);
        hall.complain(7, 0, TenderHall.PAPERS);
        hall.rule(0, true, 0);
        return hall;
    }

    /** A full hall has used too many calls for a Snapshot of all. */
    private static String shortLook(TenderHall hall) {
        StringBuilder text = new StringBuilder();
        text.append(hall.today()).append(' ').append(hall.awardOf(0, 0)).append(' ').append(hall.awardOf(0, 1));
        for (int b = 0; b < 2; b++) {
            text.append(' ').append(hall.held(b)).append(' ').append(hall.lost(b)).append(' ').append(hall.owes(b));
            for (int lot = 0; lot < 2; lot++) {
                text.append(' ').append(hall.isIn(b, 0, lot)).append(hall.score(b, 0, lot));
            }
        }
        for (int award = 56; award < 60; award++) {
            try {
                text.append('\n').append(Halls.lineOf(hall, award));
            } catch (IndexOutOfBoundsException e) {
                text.append(" none");
            }
        }
        return text.toString();
    }

    /** Promise 12: "or there are 60 awards". Terms: "Awards are numbered from 0, at most 60". */
    private static void sixtyAwards() {
        TenderHall last = Halls.withAwards(59);
        Check.fails("14 there is no award 59 yet", Check.INDEX, () -> last.winner(59));
        Check.same("12 the sixtieth", last.award(0, 1), 59);
        Check.same("14 the sixtieth", last.winner(59), 0);
        TenderHall full = Halls.withAwards(60);
        String before = shortLook(full);
        Check.fails("12 if there are 60", Check.STATE, () -> full.award(0, 1));
        Check.fails("12 listed first: no such lot, with 60", Check.INDEX, () -> full.award(0, 2));
        Check.fails("12 listed first: no such tender, with 60", Check.INDEX, () -> full.award(1, 0));
        Check.same("12 refused, and as it was", shortLook(full), before);
        Check.fails("14 there is no award 60", Check.INDEX, () -> full.winner(60));
        Check.fails("15 there is no award 60", Check.INDEX, () -> full.isVoid(60));
        Check.fails("16 there is no award 60", Check.INDEX, () -> full.isFinal(60));
        Check.fails("18 there is no award 60", Check.INDEX, () -> full.line(60));
        Check.fails("19 there is no award 60", Check.INDEX, () -> full.lineChar(60, 0));
        Check.fails("20 there is no award 60", Check.INDEX, () -> full.complain(1, 60, 0));
        Check.fails("24 there is no award 60", Check.INDEX, () -> full.sign(60));
    }

    /** Promise 21: "or it is upheld, and there are 60 awards": also where no bid would be left to award to. */
    private static void sixtiethByRuling() {
        TenderHall hall = Halls.withAwardsOfOne(59);
        hall.complain(1, 58, TenderHall.QUALITY);
        Check.same("21 the sixtieth by a ruling", hall.rule(58, true, 100), 59);
        hall.complain(1, 59, TenderHall.PAPERS);
        String before = shortLook(hall);
        Check.fails("21 upheld with 60", Check.STATE, () -> hall.rule(59, true, 0));
        Check.fails("21 listed first: the range, with 60", Check.ARGUMENT, () -> hall.rule(59, true, -1));
        Check.fails("21 listed first: no such complaint, with 60", Check.INDEX, () -> hall.rule(60, true, -1));
        Check.same("21 refused, and as it was", shortLook(hall), before);
        Check.same("21 still OPEN", hall.stateOf(59), TenderHall.OPEN);
        Check.same("21 dismissed with 60", hall.rule(59, false, 0), NONE);
        Check.same("22 appealed with 60", hall.appeal(59), 1);
        Check.fails("21 upheld with 60, behind the appeal", Check.STATE, () -> hall.rule(59, true, 0));
        TenderHall room = Halls.withAwardsOfOne(59);
        room.complain(1, 58, TenderHall.PAPERS);
        Check.same("21 upheld with 59, nobody is left", room.rule(58, true, 0), NONE);
        Check.fails("21 none was made by that", Check.INDEX, () -> room.winner(59));
    }

    /** Promise 12: "Returns the number of the award": over all lots, from 0. */
    private static void awardNumbers() {
        TenderHall hall = new TenderHall();
        for (int t = 0; t < 6; t++) {
            hall.addTender(1 + t, 0, 0, 0);
            for (int lot = 0; lot < 3; lot++) {
                hall.addLot(t, 0);
                hall.bid(t, t, lot, 5, 5);
            }
        }
        hall.pass(6);
        for (int i = 0; i < 18; i++) {
            int t = 5 - i / 3;
            Check.same("12 the number", hall.award(t, 2 - i % 3), i);
            Check.same("13 the award of that lot", hall.awardOf(t, 2 - i % 3), i);
            Check.same("14 the bidder of that lot", hall.winner(i), t);
        }
        Check.fails("12 there is no tender 6", Check.INDEX, () -> hall.award(6, 0));
        Check.fails("12 there is no lot 3", Check.INDEX, () -> hall.award(5, 3));
    }

    /** Promise 13: "Returns the award; NONE." */
    private static void awardOfNone() {
        Check.same("13 ahead of the opening", Halls.fourLots().awardOf(1, 1), NONE);
        Check.same("13 opened, not awarded", Halls.fourOpened().awardOf(1, 1), NONE);
        Check.same("13 of another lot", twoAwards().awardOf(0, 1), NONE);
        Check.same("13 not void", twoAwards().awardOf(1, 1), 0);
        Check.same("13 final", Halls.onDay(Halls.dismissed(), 7).awardOf(0, 0), 0);
        Check.same("13 signed", Halls.signed().awardOf(0, 0), 0);
        Check.same("13 the one that followed", ruledOnce().awardOf(0, 0), 1);
        Check.same("13 lapsed, nobody left", onlyOutsider(1).awardOf(0, 0), NONE);
        Check.same("13 ruled out, nobody left", ruledOut().awardOf(0, 0), NONE);
    }

    /** Promise 14: "the bidder to whom an award went": whatever became of it. */
    private static void winnerStays() {
        Check.same("14 void by a ruling", ruledOut().winner(0), 0);
        Check.same("14 void by a lapse", onlyOutsider(1).winner(0), 0);
        TenderHall hall = Halls.signed();
        hall.appeal(0);
        hall.rule(0, true, 0);
        Check.same("14 signed and void", hall.winner(0), 0);
        Check.same("14 the one that followed", hall.winner(1), 1);
    }

    /** Promise 15. Terms: "it is VOID" from the day on which it lapses, or with the ruling. */
    private static void voidOnItsDay() {
        TenderHall hall = Halls.row(2, 3);
        for (int day = 1; day <= 35; day++) {
            Halls.passTo(hall, day);
            Check.same("15 lapsed, day " + day, hall.isVoid(0), day >= 34);
        }
        TenderHall ruled = Halls.row(3, 3);
        ruled.complain(1, 0, TenderHall.QUALITY);
        ruled.complain(2, 0, TenderHall.QUALITY);
        Check.same("15 complained about", ruled.isVoid(0), false);
        ruled.rule(0, false, 0);
        Check.same("15 dismissed", ruled.isVoid(0), false);
        ruled.rule(1, true, 90);
        Check.isTrue("15 upheld, though nothing else changes", ruled.isVoid(0));
        Check.same("15 the one that followed", ruled.isVoid(1), false);
    }

    /** Terms: "today is the day of the award and the standing time, added, or later". */
    private static void finalOnItsDay() {
        for (int standing : new int[] {0, 1, 2, 29, 30}) {
            TenderHall hall = Halls.row(2, standing);
            for (int day = 1; day <= 1 + standing + 29; day++) {
                Halls.passTo(hall, day);
                Check.same("16 standing " + standing + ", day " + day, hall.isFinal(0), day >= 1 + standing);
            }
            hall.pass(1);
            Check.same("16 lapsed", hall.isFinal(0), false);
            Check.same("16 the heir by its own day", hall.isFinal(1), standing == 0);
            hall.pass(Math.max(1, standing));
            Check.isTrue("16 the heir in its turn", hall.isFinal(1));
        }
        TenderHall late = Halls.onDay(Halls.opened(), 20);
        late.award(0, 0);
        late.pass(3);
        Check.same("16 awarded long behind the opening, the day before", late.isFinal(0), false);
        Check.same("20 awarded long behind the opening, the day before", late.complain(1, 0, TenderHall.PAPERS), 0);
        late.rule(0, false, 0);
        late.pass(1);
        Check.isTrue("16 the day itself", late.isFinal(0));
    }

    /** Terms: "no complaint about it is OPEN": the first and the last of three; dismissed ones do not count. */
    private static void finalWithoutOpenComplaint() {
        TenderHall hall = Halls.row(4, 2);
        for (int b = 1; b < 4; b++) {
            hall.complain(b, 0, TenderHall.PAPERS);
        }
        hall.pass(2);
        for (int c = 0; c < 3; c++) {
            Check.same("16 some are OPEN", hall.isFinal(0), false);
            hall.rule(2 - c, false, 0);
        }
        Check.isTrue("16 none is OPEN, on the very day", hall.isFinal(0));
        hall.appeal(1);
        Check.same("16 one is OPEN once more", hall.isFinal(0), false);
        hall.rule(1, false, 0);
        Check.isTrue("16 dismissed again", hall.isFinal(0));
        TenderHall other = Halls.fourOpened();
        other.award(0, 0);
        other.award(0, 1);
        other.pass(4);
        Check.isTrue("16 both without complaints", other.isFinal(0) && other.isFinal(1));
        TenderHall two = twoLots();
        two.complain(1, 1, TenderHall.PAPERS);
        two.pass(2);
        Check.isTrue("16 a complaint about another award", two.isFinal(0));
        Check.same("16 the one complained about", two.isFinal(1), false);
    }

    /** Award 0 of lot 0 and award 1 of lot 1, both of bidder 0 on day 1, with a standing time of 2. */
    private static TenderHall twoLots() {
        TenderHall hall = new TenderHall();
        hall.addTender(1, 0, 0, 2);
        for (int lot = 0; lot < 2; lot++) {
            hall.addLot(0, 5);
            hall.bid(0, 0, lot, 5, 50);
            hall.bid(1, 0, lot, 5, 40);
        }
        hall.pass(1);
        hall.award(0, 0);
        hall.award(0, 1);
        return hall;
    }

    /** Promise 17: "NONE if the tender is not opened, or no bid is in". */
    private static void winnerAnewNone() {
        for (int day = 0; day < 6; day++) {
            TenderHall hall = Halls.onDay(Halls.fourLots(), day);
            Check.same("17 not opened, day " + day, hall.winnerAnew(1, 1), day >= 3 ? 0 : NONE);
        }
        Check.same("17 none was made", Halls.onDay(Halls.sealed(), 3).winnerAnew(0, 0), NONE);
        Check.same("17 taken back", takenBack().winnerAnew(0, 0), NONE);
        Check.same("17 out for papers", onlyOutsider(0).winnerAnew(0, 0), NONE);
        Check.same("17 lapsed", onlyOutsider(1).winnerAnew(0, 0), NONE);
        Check.same("17 ruled out", ruledOut().winnerAnew(0, 0), NONE);
        TenderHall one = Halls.row(2, 0);
        one.pass(29);
        Check.same("17 the day before the lapse", one.winnerAnew(0, 0), 0);
        one.pass(1);
        Check.same("17 on the day of the lapse", one.winnerAnew(0, 0), 1);
    }

    /** Promise 17: "from all that was ruled and has lapsed since, in its order": the later ruling stands. */
    private static void winnerAnewInOrder() {
        TenderHall hall = Halls.rowWithOutsider(3, 9);
        int[][] qualityThenWinner = {{88, 1}, {89, 1}, {86, 0}, {87, 2}, {90, 2}, {86, 0}};
        for (int[] ruling : qualityThenWinner) {
            uphold(hall, 7, TenderHall.QUALITY, ruling[0]);
            bestIs(hall, ruling[1]);
        }
        uphold(hall, 7, TenderHall.EXCLUDED, 50);
        bestIs(hall, 7);
        uphold(hall, 0, TenderHall.QUALITY, 0);
        bestIs(hall, 0);
        uphold(hall, 7, TenderHall.PAPERS, 100);
        bestIs(hall, 1);
        hall.rule(hall.complain(7, hall.awardOf(0, 0), TenderHall.PAPERS), false, 0);
        bestIs(hall, 1);
        hall.pass(39);
        bestIs(hall, 2);
        hall.pass(39);
        bestIs(hall, 7);
    }

    private static void uphold(TenderHall hall, int bidder, int ground, int quality) {
        hall.rule(hall.complain(bidder, hall.awardOf(0, 0), ground), true, quality);
    }

    private static void bestIs(TenderHall hall, int bidder) {
        Check.same("17 who would get it", hall.winnerAnew(0, 0), bidder);
        Check.same("17 as the best that is in", hall.ranked(0, 0, 0), bidder);
        Check.same("17 as it was awarded", hall.winner(hall.awardOf(0, 0)), bidder);
    }

    /** Promise 18: "Returns how many chars": one digit up to award 9, two from award 10; with a sign or without. */
    private static void lineLengths() {
        TenderHall hall = Halls.withAwards(12);
        Check.same("18 #9, VOID", hall.line(9), 11);
        Check.same("18 #10, VOID", hall.line(10), 12);
        Check.same("18 #11, without a sign", hall.line(11), 11);
        hall.pass(29);
        Check.same("18 #11, the day before it is final", hall.line(11), 11);
        hall.pass(1);
        Check.same("18 #11, final", hall.line(11), 12);
        TenderHall nine = Halls.withAwards(10);
        Check.same("18 #9, without a sign", nine.line(9), 10);
        Check.same("18 #59, without a sign", Halls.withAwards(60).line(59), 11);
    }

    /** Promise 18: "V if it is VOID, otherwise S if it is signed, otherwise F if it is final". */
    private static void lineLastSign() {
        TenderHall hall = Halls.row(2, 2);
        hall.complain(1, 0, TenderHall.QUALITY);
        hall.rule(0, false, 0);
        hall.pass(1);
        Check.same("19 the day before it is final", Halls.lineOf(hall, 0), "#0 T0L0 B0");
        hall.pass(1);
        Check.same("19 on the day it is final", Halls.lineOf(hall, 0), "#0 T0L0 B0F");
        hall.appeal(0);
        Check.same("19 a complaint is OPEN", Halls.lineOf(hall, 0), "#0 T0L0 B0");
        hall.rule(0, false, 0);
        Check.same("19 final once more", Halls.lineOf(hall, 0), "#0 T0L0 B0F");
        hall.sign(0);
        Check.same("19 signed and final", Halls.lineOf(hall, 0), "#0 T0L0 B0S");
        TenderHall appealed = Halls.signed();
        appealed.appeal(0);
        Check.same("19 signed, not final", Halls.lineOf(appealed, 0), "#0 T0L0 B0S");
        appealed.rule(0, true, 0);
        Check.same("19 signed and VOID", Halls.lineOf(appealed, 0), "#0 T0L0 B0V");
        TenderHall lapsing = Halls.row(2, 2);
        lapsing.pass(31);
        Check.same("19 the day before it lapses", Halls.lineOf(lapsing, 0), "#0 T0L0 B0F");
        lapsing.pass(1);
        Check.same("19 lapsed", Halls.lineOf(lapsing, 0), "#0 T0L0 B0V");
    }

    /** Promise 19: "place: 0 for the first one"; no such place is an IndexOutOfBoundsException. */
    private static void lineChars() {
        Edges.numbers("19 a place, of ten", 10, Halls::awarded, (h, v) -> h.lineChar(0, v));
        Edges.numbers("19 a place, of eleven", 11, Halls::signed, (h, v) -> h.lineChar(0, v));
        Edges.refusedAll("19 no such award, and no such place", Check.INDEX, Halls::awarded, List.of(
                h -> h.lineChar(1, -1), h -> h.lineChar(-1, 10), h -> h.lineChar(1, 0), h -> h.lineChar(-1, 0)));
        TenderHall hall = Halls.withAwards(11);
        Check.same("19 the last char of #10", hall.lineChar(10, 10), '0');
        Check.fails("19 behind the last char of #10", Check.INDEX, () -> hall.lineChar(10, 11));
        Check.same("19 the last char of #9", hall.lineChar(9, 10), 'V');
        Check.fails("19 behind the last char of #9", Check.INDEX, () -> hall.lineChar(9, 11));
        TenderHall turn = Halls.row(2, 1);
        Check.fails("19 no sign yet", Check.INDEX, () -> turn.lineChar(0, 10));
        turn.pass(1);
        Check.same("19 a sign from the day it is final", turn.lineChar(0, 10), 'F');
    }

    /** Promise 18: "#, its number, a blank, T, the tender, L, the lot, a blank, B, the bidder". */
    private static void lineOfEveryLot() {
        TenderHall hall = new TenderHall();
        for (int t = 0; t < 6; t++) {
            hall.addTender(1, 0, 0, 30);
            hall.addLot(t, 0);
            hall.addLot(t, 0);
            hall.addLot(t, 0);
        }
        for (int i = 0; i < 8; i++) {
            hall.bid(i, 5 - i % 6, i % 3, 5, 5);
        }
        hall.bid(7, 0, 2, 5, 6);
        hall.pass(1);
        String[] due = {"#0 T5L0 B0", "#1 T4L1 B1", "#2 T3L2 B2", "#3 T2L0 B3", "#4 T1L1 B4", "#5 T0L2 B7"};
        for (int i = 0; i < 6; i++) {
            hall.award(5 - i, i % 3);
            Check.same("18 the line's length", hall.line(i), 10);
            Check.same("19 the line", Halls.lineOf(hall, i), due[i]);
        }
    }
}
