import java.util.List;

/** Boundaries of promises 20 to 23, and of Terms on complaints; each comment quotes its sentence. */
final class ComplaintEdgesTest {
    private static final int NONE = TenderHall.NONE;
    private static final int PAPERS = TenderHall.PAPERS;
    private static final int QUALITY = TenderHall.QUALITY;
    private static final int EXCLUDED = TenderHall.EXCLUDED;

    private ComplaintEdgesTest() {
    }

    static void run() {
        whoAndWhich();
        groundRange();
        complainListedFirst();
        awardIsVoid();
        withinTheStandingTime();
        whoHasABid();
        complainedBefore();
        excludedButIn();
        refusedLeavesTheRight();
        sixtyComplaints();
        ruleRange();
        ruleListedFirst();
        ruleOnlyOpen();
        ruleReturns();
        ruledQualityEnds();
        ruledQualityTies();
        upheldAndMoot();
        excludedLetsIn();
        appealWithinTenDays();
        appealOnce();
        appealOnlyDismissed();
        appealAboutVoid();
        appealCounts();
        states();
    }

    /** Promise 20: "bidder: 0 to 7", "award: an award"; promises 21 to 23: "complaint: a complaint". */
    private static void whoAndWhich() {
        Edges.numbers("20 bidder: 0 to 7", 8, ComplaintEdgesTest::lastIsBest, (h, v) -> {
            if (v != 7) {
                h.complain(v, 0, PAPERS);
            }
        });
        Edges.numbers("20 award, of two", 2, ComplaintEdgesTest::twoLots, (h, v) -> h.complain(2, v, PAPERS));
        Edges.numbers("21 complaint, of two", 2, ComplaintEdgesTest::twoComplaints, (h, v) -> h.rule(v, true, 0));
        Edges.numbers("21 complaint, of two", 2, ComplaintEdgesTest::twoComplaints, (h, v) -> h.rule(v, false, 0));
        Edges.numbers("22 complaint, of two", 2, ComplaintEdgesTest::twoDismissed, TenderHall::appeal);
        Edges.numbers("23 complaint, of two", 2, ComplaintEdgesTest::twoComplaints, TenderHall::stateOf);
        Edges.refusedAll("21 22 23 without complaints", Check.INDEX, Halls::awarded, List.of(
                h -> h.rule(0, true, 0), h -> h.rule(0, false, 0), h -> h.appeal(0), h -> h.stateOf(0)));
        Edges.refusedAll("20 without awards", Check.INDEX, Halls::opened, List.of(
                h -> h.complain(1, 0, PAPERS), h -> h.complain(1, 0, -1)));
    }

    /** Eight bids; the award went to bidder 7. */
    private static TenderHall lastIsBest() {
        TenderHall hall = new TenderHall();
        hall.addTender(1, 0, 0, 5);
        hall.addLot(0, 10);
        for (int b = 0; b < 8; b++) {
            hall.bid(b, 0, 0, 100, 50 + b);
        }
        hall.pass(1);
        hall.award(0, 0);
        return hall;
    }

    /** Two lots of three bidders each, awarded to bidder 0 on day 1, with a standing time of 5. */
    private static TenderHall twoLots() {
        TenderHall hall = new TenderHall();
        hall.addTender(1, 0, 0, 5);
        for (int lot = 0; lot < 2; lot++) {
            hall.addLot(0, 10);
            for (int b = 0; b < 3; b++) {
                hall.bid(b, 0, lot, 100, 50 - b);
            }
        }
        hall.pass(1);
        hall.award(0, 0);
        hall.award(0, 1);
        return hall;
    }

    private static TenderHall twoComplaints() {
        TenderHall hall = twoLots();
        hall.complain(1, 0, QUALITY);
        hall.complain(2, 0, PAPERS);
        return hall;
    }

    private static TenderHall twoDismissed() {
        TenderHall hall = twoComplaints();
        hall.rule(0, false, 0);
        hall.rule(1, false, 0);
        return hall;
    }

    private static TenderHall upheldAndMootMade() {
        TenderHall hall = twoComplaints();
        hall.rule(0, true, 0);
        return hall;
    }

    /** Promise 20: "ground: PAPERS, QUALITY or EXCLUDED": 0 to 2. */
    private static void groundRange() {
        Edges.range("20 ground: 0 to 2", 0, 2, Check.ARGUMENT, () -> Halls.rowWithOutsider(2, 5),
                (h, v) -> h.complain(7, 0, v));
    }

    /** Promise 20: no such bidder or award, then the ground, then the state. */
    private static void complainListedFirst() {
        Edges.refusedAll("20 no such one ahead of the ground", Check.INDEX, Halls::awarded, List.of(
                h -> h.complain(8, 0, 3), h -> h.complain(-1, 0, -1), h -> h.complain(1, 1, 3),
                h -> h.complain(1, -1, -1), h -> h.complain(8, 1, 3)));
        Edges.refusedAll("20 no such one ahead of the state", Check.INDEX, Halls::signed, List.of(
                h -> h.complain(8, 0, PAPERS), h -> h.complain(-1, 0, PAPERS), h -> h.complain(0, 1, PAPERS)));
        Edges.refused("20 the ground ahead of VOID", Check.ARGUMENT, ComplaintEdgesTest::upheldAndMootMade,
                h -> h.complain(2, 0, 3));
        Edges.refused("20 the ground ahead of the time", Check.ARGUMENT, Halls::signed, h -> h.complain(2, 0, -1));
        Edges.refusedAll("20 the ground ahead of who complains", Check.ARGUMENT, Halls::complained, List.of(
                h -> h.complain(0, 0, 3), h -> h.complain(1, 0, -1), h -> h.complain(5, 0, 3)));
    }

    /** Promise 20: "if the award is VOID": by a ruling and by a lapse, within the standing time or not. */
    private static void awardIsVoid() {
        Edges.refused("20 VOID by a ruling", Check.STATE, ComplaintEdgesTest::upheldAndMootMade,
                h -> h.complain(1, 0, PAPERS));
        Edges.taken("20 about the one that followed", ComplaintEdgesTest::upheldAndMootMade,
                h -> h.complain(0, 2, PAPERS));
        TenderHall hall = twoLots();
        hall.complain(1, 0, PAPERS);
        hall.rule(0, true, 0);
        Check.fails("20 VOID, by one who had not complained", Check.STATE, () -> hall.complain(2, 0, PAPERS));
        Check.same("20 the next number is as it was", hall.complain(2, 1, PAPERS), 1);
        TenderHall lapsed = Halls.row(3, 2);
        lapsed.pass(32);
        Check.fails("20 VOID by a lapse", Check.STATE, () -> lapsed.complain(2, 0, PAPERS));
        Check.same("20 about the heir", lapsed.complain(2, 1, PAPERS), 0);
    }

    /** Promise 20: "today is the day of the award and the standing time, added, or later". */
    private static void withinTheStandingTime() {
        Edges.refused("20 standing 0, the day of the award", Check.STATE, () -> Halls.row(2, 0),
                h -> h.complain(1, 0, PAPERS));
        for (int standing : new int[] {1, 2, 30}) {
            for (int day = 1; day <= standing; day += Math.max(1, standing - 1)) {
                int today = day;
                Edges.taken("20 standing " + standing + ", day " + day,
                        () -> Halls.onDay(Halls.row(2, standing), today), h -> h.complain(1, 0, PAPERS));
            }
            for (int day = standing + 1; day <= standing + 3; day++) {
                int today = day;
                Edges.refused("20 standing " + standing + ", day " + day, Check.STATE,
                        () -> Halls.onDay(Halls.row(2, standing), today), h -> h.complain(1, 0, PAPERS));
            }
        }
        TenderHall open = Halls.row(3, 2);
        open.complain(1, 0, PAPERS);
        open.pass(2);
        Check.fails("20 too late, though it is not final", Check.STATE, () -> open.complain(2, 0, PAPERS));
    }

    /** Promise 20: "who has a bid for the lot, in or out, and not the award". */
    private static void whoHasABid() {
        Edges.refused("20 who has the award", Check.STATE, Halls::awarded, h -> h.complain(0, 0, PAPERS));
        Edges.refused("20 who has no bid", Check.STATE, Halls::awarded, h -> h.complain(7, 0, PAPERS));
        Edges.taken("20 whose bid is in", Halls::awarded, h -> h.complain(1, 0, PAPERS));
        Edges.taken("20 whose bid is out for lack of papers", Halls::awarded, h -> h.complain(3, 0, QUALITY));
        TenderHall hall = new TenderHall();
        hall.addTender(1, 0, 0, 5);
        hall.addTender(1, 0, 0, 5);
        hall.addLot(0, 0);
        hall.addLot(0, 0);
        hall.addLot(1, 0);
        hall.bid(0, 0, 0, 5, 5);
        hall.bid(1, 0, 1, 5, 5);
        hall.bid(2, 1, 0, 5, 5);
        hall.bid(3, 0, 0, 5, 5);
        hall.withdraw(3, 0, 0);
        hall.pass(1);
        hall.award(0, 0);
        hall.award(0, 1);
        Check.fails("20 a bid for another lot", Check.STATE, () -> hall.complain(1, 0, PAPERS));
        Check.fails("20 a bid for another tender's lot", Check.STATE, () -> hall.complain(2, 0, PAPERS));
        Check.fails("20 a bid that was taken back", Check.STATE, () -> hall.complain(3, 0, PAPERS));
        Check.fails("20 the award of another lot is not enough", Check.STATE, () -> hall.complain(0, 1, PAPERS));
        Check.fails("20 none was numbered", Check.INDEX, () -> hall.stateOf(0));
        TenderHall out = Halls.row(3, 5);
        out.rule(out.complain(1, 0, PAPERS), true, 0);
        Check.same("20 whose bid is out for good", out.complain(0, 1, PAPERS), 1);
        Check.fails("20 who has the new award", Check.STATE, () -> out.complain(1, 1, PAPERS));
    }

    /** Promise 20: "has complained about this award before": OPEN, DISMISSED; about another award is another matter. */
    private static void complainedBefore() {
        Edges.refused("20 before, OPEN", Check.STATE, ComplaintEdgesTest::twoComplaints, h -> h.complain(1, 0, PAPERS));
        Edges.refused("20 before, DISMISSED", Check.STATE, ComplaintEdgesTest::twoDismissed,
                h -> h.complain(2, 0, QUALITY));
        Edges.taken("20 about another lot's award", ComplaintEdgesTest::twoDismissed, h -> h.complain(2, 1, PAPERS));
        TenderHall hall = upheldAndMootMade();
        Check.same("14 the one that followed went to bidder 1", hall.winner(2), 1);
        Check.same("20 MOOT before, about the one that followed", hall.complain(2, 2, PAPERS), 2);
        hall.rule(2, true, 0);
        Check.same("20 UPHELD before, about the next", hall.complain(1, 3, PAPERS), 3);
        Check.fails("20 but once", Check.STATE, () -> hall.complain(1, 3, QUALITY));
    }

    /** Promise 20: "the ground is EXCLUDED, and the own bid is not out for lack of papers". */
    private static void excludedButIn() {
        Edges.refused("20 the own bid is in", Check.STATE, Halls::awarded, h -> h.complain(1, 0, EXCLUDED));
        Edges.refused("20 no own bid", Check.STATE, Halls::awarded, h -> h.complain(5, 0, EXCLUDED));
        Edges.refused("20 who has the award", Check.STATE, Halls::awarded, h -> h.complain(0, 0, EXCLUDED));
        Edges.taken("20 the own bid is out for lack of papers", Halls::awarded, h -> h.complain(3, 0, EXCLUDED));
        TenderHall hall = Halls.rowWithOutsider(3, 5);
        hall.rule(hall.complain(7, 0, EXCLUDED), true, 0);
        hall.rule(hall.complain(1, 1, QUALITY), true, 0);
        Check.same("14 worse now", hall.winner(2), 0);
        Check.fails("20 let in before", Check.STATE, () -> hall.complain(7, 2, EXCLUDED));
        Check.same("20 let in before, another ground", hall.complain(7, 2, QUALITY), 2);
        TenderHall out = Halls.rowWithOutsider(3, 5);
        out.rule(out.complain(1, 0, PAPERS), true, 0);
        Check.fails("20 out for good by a ruling", Check.STATE, () -> out.complain(0, 1, EXCLUDED));
        Check.same("20 the paper came later, yet the bid is out", out.paper(7, 0, 2000), -1);
        Check.same("20 so it can be let in", out.complain(7, 1, EXCLUDED), 1);
    }

    /** Terms: "A call that throws an exception changes nothing": one who was refused can still complain. */
    private static void refusedLeavesTheRight() {
        TenderHall hall = Halls.awarded();
        Check.fails("20 EXCLUDED, but in", Check.STATE, () -> hall.complain(1, 0, EXCLUDED));
        Check.fails("20 ground 3", Check.ARGUMENT, () -> hall.complain(1, 0, 3));
        Check.fails("20 award 1", Check.INDEX, () -> hall.complain(1, 1, PAPERS));
        Check.same("20 still free to complain", hall.complain(1, 0, PAPERS), 0);
        Check.fails("22 OPEN", Check.STATE, () -> hall.appeal(0));
        hall.rule(0, false, 0);
        Check.same("22 still free to appeal", hall.appeal(0), 1);
        Check.fails("21 quality 101", Check.ARGUMENT, () -> hall.rule(0, true, 101));
        Check.same("23 still OPEN", hall.stateOf(0), TenderHall.OPEN);
        Check.same("21 still to be ruled", hall.rule(0, true, 100), 1);
    }

    /** So many complaints, seven about each award. */
    private static TenderHall withComplaints(int count) {
        TenderHall hall = Halls.nineAwards();
        for (int i = 0; i < count; i++) {
            hall.complain(1 + i % 7, i / 7, QUALITY);
        }
        return hall;
    }

    /** Promise 20: "or there are 60 complaints". Terms: "numbered from 0, at most 60". */
    private static void sixtyComplaints() {
        TenderHall last = withComplaints(59);
        Check.fails("23 there is no complaint 59 yet", Check.INDEX, () -> last.stateOf(59));
        Check.same("20 the sixtieth", last.complain(7, 8, PAPERS), 59);
        Check.same("23 the sixtieth", last.stateOf(59), TenderHall.OPEN);
        Check.fails("20 no more", Check.STATE, () -> last.complain(6, 8, PAPERS));
        TenderHall full = withComplaints(60);
        Check.fails("20 if there are 60", Check.STATE, () -> full.complain(7, 8, PAPERS));
        Check.fails("20 listed first: the ground, with 60", Check.ARGUMENT, () -> full.complain(7, 8, 3));
        Check.fails("20 listed first: no such award, with 60", Check.INDEX, () -> full.complain(7, 9, 3));
        Check.fails("20 listed first: no such bidder, with 60", Check.INDEX, () -> full.complain(8, 8, 3));
        Check.fails("21 there is no complaint 60", Check.INDEX, () -> full.rule(60, false, 0));
        Check.fails("22 there is no complaint 60", Check.INDEX, () -> full.appeal(60));
        Check.fails("23 there is no complaint 60", Check.INDEX, () -> full.stateOf(60));
        full.pass(5);
        Check.isTrue("16 award 8 is complained about by four", !full.isFinal(8));
        for (int c = 56; c < 60; c++) {
            full.rule(c, false, 0);
        }
        Check.isTrue("16 and final without them", full.isFinal(8));
        Check.same("22 an appeal needs no new number", full.appeal(59), 1);
        Check.same("21 upheld with 60 complaints", full.rule(59, true, 0), 9);
        Check.fails("20 ended ones count", Check.STATE, () -> full.complain(2, 9, PAPERS));
    }

    /** Promise 21: "quality: 0 to 100", "in its range for the others, too". */
    private static void ruleRange() {
        for (int ground : new int[] {PAPERS, QUALITY, EXCLUDED}) {
            Edges.range("21 quality, upheld, ground " + ground, 0, 100, Check.ARGUMENT, () -> outsiderComplains(ground),
                    (h, v) -> h.rule(0, true, v));
            Edges.range("21 quality, dismissed, ground " + ground, 0, 100, Check.ARGUMENT,
                    () -> outsiderComplains(ground), (h, v) -> h.rule(0, false, v));
        }
    }

    private static TenderHall outsiderComplains(int ground) {
        TenderHall hall = Halls.rowWithOutsider(2, 5);
        hall.complain(7, 0, ground);
        return hall;
    }

    /** Promise 21: no such complaint, then the quality, then the state. */
    private static void ruleListedFirst() {
        for (boolean isUpheld : new boolean[] {true, false}) {
            Edges.refusedAll("21 no such one ahead of the quality", Check.INDEX, Halls::complained, List.of(
                    h -> h.rule(1, isUpheld, -1), h -> h.rule(-1, isUpheld, 101), h -> h.rule(60, isUpheld, 0)));
            Edges.refusedAll("21 the quality ahead of the state", Check.ARGUMENT,
                    ComplaintEdgesTest::upheldAndMootMade, List.of(h -> h.rule(0, isUpheld, -1),
                            h -> h.rule(1, isUpheld, 101)));
            Edges.refused("21 the quality ahead of DISMISSED", Check.ARGUMENT, Halls::dismissed,
                    h -> h.rule(0, isUpheld, 101));
        }
    }

    /** Promise 21: "IllegalStateException if it is not OPEN": UPHELD, MOOT, DISMISSED, and VOID by another. */
    private static void ruleOnlyOpen() {
        for (boolean isUpheld : new boolean[] {true, false}) {
            Edges.refusedAll("21 UPHELD or MOOT", Check.STATE, ComplaintEdgesTest::upheldAndMootMade, List.of(
                    h -> h.rule(0, isUpheld, 0), h -> h.rule(1, isUpheld, 0)));
            Edges.refusedAll("21 DISMISSED", Check.STATE, ComplaintEdgesTest::twoDismissed, List.of(
                    h -> h.rule(0, isUpheld, 0), h -> h.rule(1, isUpheld, 0)));
        }
        TenderHall late = twoComplaints();
        late.pass(100);
        Check.same("21 OPEN for long", late.rule(0, false, 0), NONE);
        Check.same("21 upheld long after the standing time", late.rule(1, true, 0), late.awardOf(0, 0));
    }

    /** Promise 21: "Returns the award that is made by that; NONE." */
    private static void ruleReturns() {
        Check.same("21 dismissed", outsiderComplains(PAPERS).rule(0, false, 0), NONE);
        Check.same("21 the next award", outsiderComplains(PAPERS).rule(0, true, 0), 1);
        Check.same("21 the next award, to the same", outsiderComplains(QUALITY).rule(0, true, 90), 1);
        Check.same("21 the next award, to the other", outsiderComplains(EXCLUDED).rule(0, true, 0), 1);
        TenderHall alone = Halls.rowWithOutsider(1, 5);
        alone.complain(7, 0, PAPERS);
        Check.same("21 nobody is left", alone.rule(0, true, 0), NONE);
        Check.same("23 UPHELD all the same", alone.stateOf(0), TenderHall.UPHELD);
        TenderHall two = twoComplaints();
        two.complain(1, 1, PAPERS);
        Check.same("21 numbered over all lots", two.rule(2, true, 0), 2);
        Check.same("21 the lot of that award", two.awardOf(0, 1), 2);
        Check.same("21 not the other lot", two.awardOf(0, 0), 0);
        Check.same("23 nor its complaints", two.stateOf(0), TenderHall.OPEN);
    }

    /** Terms: "QUALITY: when it is upheld, the quality of that bid becomes what is ruled": 0, 100, no one else's. */
    private static void ruledQualityEnds() {
        for (int quality : new int[] {0, 1, 99, 100}) {
            TenderHall hall = Halls.row(3, 5);
            hall.complain(1, 0, QUALITY);
            hall.rule(0, true, quality);
            Check.same("21 what is ruled", hall.score(0, 0, 0), 1000 * quality);
            Check.same("21 not of the one who complains", hall.score(1, 0, 0), 89000);
            Check.same("21 nor of others", hall.score(2, 0, 0), 88000);
            Check.isTrue("21 still in, with its deposit", hall.isIn(0, 0, 0) && hall.held(0) == 10);
            Check.same("21 awarded anew", hall.winner(1), quality > 89 ? 0 : 1);
        }
        TenderHall papers = outsiderComplains(PAPERS);
        papers.rule(0, true, 100);
        Check.same("21 by PAPERS no quality changes", papers.score(1, 0, 0), 89000);
        TenderHall dismissed = outsiderComplains(QUALITY);
        dismissed.rule(0, false, 100);
        Check.same("21 dismissed, no quality changes", dismissed.score(0, 0, 0), 90000);
    }

    /** The same sentence, where the ruled quality makes a tie: the price, then the time of the bid decides. */
    private static void ruledQualityTies() {
        TenderHall earlier = Halls.row(2, 5);
        earlier.complain(1, 0, QUALITY);
        earlier.rule(0, true, 89);
        Check.same("21 a tie, the earlier bid", earlier.winner(1), 0);
        TenderHall below = Halls.row(2, 5);
        below.complain(1, 0, QUALITY);
        below.rule(0, true, 88);
        Check.same("21 below the tie", below.winner(1), 1);
        TenderHall later = new TenderHall();
        later.addTender(1, 0, 0, 5);
        later.addLot(0, 0);
        later.bid(1, 0, 0, 100, 60);
        later.bid(0, 0, 0, 100, 70);
        later.bid(2, 0, 0, 99, 50);
        later.pass(1);
        later.award(0, 0);
        later.complain(1, 0, QUALITY);
        later.rule(0, true, 60);
        Check.same("21 a tie, the later bid stands behind", later.winner(1), 1);
        later.complain(0, 1, QUALITY);
        later.rule(1, true, 50);
        Check.same("21 best by the earlier ruling", later.winner(2), 0);
        later.complain(2, 2, QUALITY);
        later.rule(2, true, 50);
        Check.same("21 a tie of three, the lower price", later.winner(3), 2);
    }

    /** Terms: "it is UPHELD, the award is VOID, all other complaints about it that are OPEN are MOOT". */
    private static void upheldAndMoot() {
        TenderHall hall = lastIsBest();
        for (int b = 0; b < 7; b++) {
            hall.complain(b, 0, QUALITY);
        }
        hall.rule(1, false, 0);
        hall.rule(5, false, 0);
        hall.rule(2, false, 0);
        hall.appeal(2);
        hall.rule(3, true, 100);
        int[] due = {TenderHall.MOOT, TenderHall.DISMISSED, TenderHall.MOOT, TenderHall.UPHELD, TenderHall.MOOT,
            TenderHall.DISMISSED, TenderHall.MOOT};
        for (int c = 0; c < 7; c++) {
            Check.same("23 state of complaint " + c, hall.stateOf(c), due[c]);
        }
        Check.isTrue("15 VOID", hall.isVoid(0));
        Check.same("12 awarded anew", hall.awardOf(0, 0), 1);
        hall.complain(0, 1, QUALITY);
        Check.same("23 the new one is OPEN", hall.stateOf(7), TenderHall.OPEN);
    }

    /** Terms: "the bid of the one who complains, which is out for lack of papers (since the opening), is in". */
    private static void excludedLetsIn() {
        TenderHall hall = new TenderHall();
        hall.addTender(1, 1, 0, 5);
        hall.addLot(0, 10);
        hall.paper(0, 0, 1);
        for (int b = 0; b < 3; b++) {
            hall.bid(b, 0, 0, 100, 50);
        }
        hall.pass(1);
        hall.award(0, 0);
        hall.complain(2, 0, EXCLUDED);
        hall.complain(1, 0, EXCLUDED);
        hall.rule(0, true, 0);
        Check.isTrue("9 the one who complains", hall.isIn(2, 0, 0));
        Check.same("9 not the other, whose complaint is MOOT", hall.isIn(1, 0, 0), false);
        Check.isTrue("9 the earlier winner stays in", hall.isIn(0, 0, 0));
        Check.same("11 a tie by the time of its bid, not of the ruling", hall.winner(1), 0);
        hall.complain(1, 1, EXCLUDED);
        hall.rule(2, true, 0);
        Check.same("11 the first bid", hall.ranked(0, 0, 0), 0);
        Check.same("11 let in later, bid earlier", hall.ranked(0, 0, 1), 1);
        Check.same("11 let in earlier, bid later", hall.ranked(0, 0, 2), 2);
        Check.same("28 held once more", hall.held(1), 10);
        TenderHall nothing = outsiderComplains(EXCLUDED);
        nothing.rule(0, false, 0);
        Check.same("9 dismissed, still out", nothing.isIn(7, 0, 0), false);
    }

    /** Promise 22: "was dismissed more than 10 days ago": the same day, the tenth, the eleventh. */
    private static void appealWithinTenDays() {
        for (int days : new int[] {0, 1, 9, 10}) {
            Edges.taken("22 dismissed " + days + " days ago", () -> dismissedAgo(days), h -> h.appeal(0));
        }
        for (int days : new int[] {11, 12, 30}) {
            Edges.refused("22 dismissed " + days + " days ago", Check.STATE, () -> dismissedAgo(days),
                    h -> h.appeal(0));
        }
        TenderHall late = Halls.row(3, 5);
        late.complain(1, 0, PAPERS);
        late.pass(25);
        late.rule(0, false, 0);
        Check.same("22 the days count from the dismissal, not from the complaint", late.appeal(0), 1);
    }

    /** Dismissed on the last day ahead of its standing time of 30, so that the award does not lapse soon. */
    private static TenderHall dismissedAgo(int days) {
        TenderHall hall = Halls.row(3, 30);
        hall.complain(1, 0, PAPERS);
        hall.pass(20);
        hall.rule(0, false, 0);
        Halls.passTo(hall, 21 + days);
        return hall;
    }

    /** Promise 22: "was appealed before": though it was dismissed a second time just now. */
    private static void appealOnce() {
        Edges.refused("22 appealed before", Check.STATE, ComplaintEdgesTest::dismissedTwice, h -> h.appeal(0));
        Edges.taken("22 another one", ComplaintEdgesTest::dismissedTwice, h -> h.appeal(1));
        TenderHall upheld = Halls.dismissed();
        upheld.appeal(0);
        Check.same("22 upheld in the end", upheld.rule(0, true, 0), 1);
    }

    private static TenderHall dismissedTwice() {
        TenderHall hall = twoDismissed();
        hall.appeal(0);
        hall.rule(0, false, 0);
        return hall;
    }

    /** Promise 22: "IllegalStateException if it is not DISMISSED": OPEN, OPEN by an appeal, UPHELD, MOOT. */
    private static void appealOnlyDismissed() {
        Edges.refusedAll("22 OPEN", Check.STATE, ComplaintEdgesTest::twoComplaints, List.of(
                h -> h.appeal(0), h -> h.appeal(1)));
        Edges.refused("22 OPEN by an appeal", Check.STATE, ComplaintEdgesTest::appealedOnce, h -> h.appeal(0));
        Edges.refusedAll("22 UPHELD or MOOT", Check.STATE, ComplaintEdgesTest::upheldAndMootMade, List.of(
                h -> h.appeal(0), h -> h.appeal(1)));
    }

    private static TenderHall appealedOnce() {
        TenderHall hall = twoDismissed();
        hall.appeal(0);
        return hall;
    }

    /** Promise 22: "or the award is VOID": by another complaint, and by a lapse within the ten days. */
    private static void appealAboutVoid() {
        Edges.refused("22 VOID by another complaint", Check.STATE, ComplaintEdgesTest::oneDismissedOneUpheld,
                h -> h.appeal(0));
        TenderHall hall = Halls.row(3, 2);
        hall.complain(1, 0, PAPERS);
        hall.pass(31);
        hall.rule(0, false, 0);
        hall.pass(1);
        Check.isTrue("15 lapsed", hall.isVoid(0));
        Check.fails("22 VOID by a lapse", Check.STATE, () -> hall.appeal(0));
        TenderHall saved = Halls.row(3, 2);
        saved.complain(1, 0, PAPERS);
        saved.pass(31);
        saved.rule(0, false, 0);
        Check.same("22 ahead of the lapse", saved.appeal(0), 1);
        Check.same("7 so it does not lapse", saved.pass(1), 0);
    }

    private static TenderHall oneDismissedOneUpheld() {
        TenderHall hall = twoComplaints();
        hall.rule(0, false, 0);
        hall.rule(1, true, 0);
        return hall;
    }

    /** Promise 22: "Returns how many complaints about this award are OPEN then": this award's alone. */
    private static void appealCounts() {
        TenderHall hall = twoDismissed();
        hall.complain(1, 1, PAPERS);
        hall.complain(2, 1, PAPERS);
        Check.same("22 the first of two", hall.appeal(1), 1);
        Check.same("22 the second of two", hall.appeal(0), 2);
        TenderHall signed = Halls.signed();
        Check.same("22 about a signed award", signed.appeal(0), 1);
        TenderHall seven = lastIsBest();
        for (int b = 0; b < 7; b++) {
            seven.complain(b, 0, PAPERS);
        }
        seven.rule(6, false, 0);
        Check.same("22 all seven", seven.appeal(6), 7);
    }

    /** Promise 23: "Returns OPEN, UPHELD, DISMISSED or MOOT." */
    private static void states() {
        Check.same("23 OPEN at first", twoComplaints().stateOf(1), 0);
        Check.same("23 UPHELD", upheldAndMootMade().stateOf(0), 1);
        Check.same("23 DISMISSED", twoDismissed().stateOf(1), 2);
        Check.same("23 MOOT", upheldAndMootMade().stateOf(1), 3);
        Check.same("23 OPEN once more", appealedOnce().stateOf(0), 0);
        TenderHall lapsed = Halls.row(3, 2);
        lapsed.complain(1, 0, PAPERS);
        lapsed.rule(0, false, 0);
        lapsed.pass(32);
        Check.same("23 DISMISSED, the award lapsed", lapsed.stateOf(0), 2);
    }
}
