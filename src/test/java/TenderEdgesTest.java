import java.util.List;

/** Boundaries of promises 1 to 4, 7 and 8, and of Terms on days and papers; each comment quotes its sentence. */
final class TenderEdgesTest {
    private static final int NONE = TenderHall.NONE;

    private TenderEdgesTest() {
    }

    static void run() {
        beginsEmpty();
        bearsAllItsCalls();
        closingRange();
        closingLaterThanToday();
        papersRange();
        papersBits();
        weightRange();
        weightEnds();
        standingRange();
        standingEnds();
        sixTenders();
        lotOfATender();
        depositRange();
        threeLots();
        lotUntilOpened();
        paperWhose();
        paperUntilRange();
        paperBefore();
        paperThatDayIncluded();
        papersThatComeLater();
        daysRange();
        todayUpTo2000();
        lapseOnTheLastDay();
        openedWithinAPass();
        todayStays();
    }

    /** Promise 1: "Begins on the day 0, without tenders." Terms: "at first none (-1)". */
    private static void beginsEmpty() {
        Check.same("1 begins on day 0", new TenderHall().today(), 0);
        Check.same("1 the first tender is 0", new TenderHall().addTender(1, 0, 0, 0), 0);
        Edges.refusedAll("1 without tenders", Check.INDEX, TenderHall::new, List.of(
                h -> h.addLot(0, 0), h -> h.bid(0, 0, 0, 1, 0), h -> h.withdraw(0, 0, 0), h -> h.isIn(0, 0, 0),
                h -> h.score(0, 0, 0), h -> h.ranked(0, 0, 0), h -> h.award(0, 0), h -> h.awardOf(0, 0),
                h -> h.winnerAnew(0, 0)));
        Edges.refusedAll("1 without awards", Check.INDEX, TenderHall::new, List.of(
                h -> h.winner(0), h -> h.isVoid(0), h -> h.isFinal(0), h -> h.line(0), h -> h.lineChar(0, 0),
                h -> h.complain(0, 0, 0), h -> h.sign(0)));
        Edges.refusedAll("1 without complaints or contracts", Check.INDEX, TenderHall::new, List.of(
                h -> h.rule(0, true, 0), h -> h.rule(0, false, 0), h -> h.appeal(0), h -> h.stateOf(0),
                h -> h.call(0, 1), h -> h.running(0)));
        TenderHall hall = new TenderHall();
        for (int b = 0; b < 8; b++) {
            Check.same("1 nothing owed, held or lost", hall.owes(b) + hall.held(b) + hall.lost(b), 0);
            for (int kind = 0; kind < 6; kind++) {
                Check.same("1 no paper at first", hall.paper(b, kind, 0), -1);
            }
        }
    }

    /** What it is: "An object is used for at most 512 calls after it has been made". */
    private static void bearsAllItsCalls() {
        TenderHall bids = Halls.sealed();
        for (int i = 3; i <= 511; i++) {
            bids.bid(i % 8, 0, 0, i, 50);
        }
        Check.same("512th call: the eight bids", bids.bid(7, 0, 0, 1, 50), 8);
        TenderHall anew = Halls.row(8, 30);
        for (int i = 13; i <= 511; i++) {
            anew.winnerAnew(0, 0);
        }
        Check.same("512th call: the best bid", anew.winnerAnew(0, 0), 0);
        TenderHall lines = Halls.row(8, 30);
        for (int i = 13; i <= 511; i++) {
            lines.line(0);
        }
        Check.same("512th call: a char", lines.lineChar(0, 9), '0');
    }

    /** Promise 2: "closing: 1 to 1000". */
    private static void closingRange() {
        Edges.range("2 closing: 1 to 1000", 1, 1000, Check.ARGUMENT, TenderHall::new,
                (h, v) -> h.addTender(v, 0, 0, 0));
        TenderHall hall = new TenderHall();
        hall.addTender(1000, 0, 0, 0);
        hall.addLot(0, 0);
        Halls.passTo(hall, 999);
        Check.same("2 closing 1000 is not come on day 999", hall.bid(0, 0, 0, 5, 5), 1);
        hall.pass(1);
        Check.isTrue("2 closing 1000 is come on day 1000", hall.isIn(0, 0, 0));
    }

    /** Promise 2: "later than today". */
    private static void closingLaterThanToday() {
        Edges.range("2 closing later than today, day 5", 6, 1000, Check.ARGUMENT, () -> Halls.onDay(5),
                (h, v) -> h.addTender(v, 0, 0, 0));
        Edges.refused("2 closing of the day before, day 5", Check.ARGUMENT, () -> Halls.onDay(5),
                h -> h.addTender(4, 0, 0, 0));
        Edges.range("2 closing later than today, day 999", 1000, 1000, Check.ARGUMENT, () -> Halls.onDay(999),
                (h, v) -> h.addTender(v, 0, 0, 0));
        for (int closing : new int[] {999, 1000, 1001}) {
            Edges.refused("2 none closes later on day 1000", Check.ARGUMENT, () -> Halls.onDay(1000),
                    h -> h.addTender(closing, 0, 0, 0));
        }
    }

    /** Promise 2: "papers: 0 to 63". */
    private static void papersRange() {
        Edges.range("2 papers: 0 to 63", 0, 63, Check.ARGUMENT, TenderHall::new, (h, v) -> h.addTender(9, v, 0, 0));
    }

    /** Promise 2: "the kinds that are needed, bit k for the kind k". */
    private static void papersBits() {
        for (int needed = 0; needed < 6; needed++) {
            TenderHall hall = openedWithPapers(1 << needed, needed);
            Check.isTrue("2 bit for the kind, that kind alone", hall.isIn(0, 0, 0));
            Check.same("2 bit for the kind, all but that kind", hall.isIn(1, 0, 0), false);
            TenderHall all = openedWithPapers(63, needed);
            Check.same("2 papers 63, one kind alone", all.isIn(0, 0, 0), false);
            Check.same("2 papers 63, all but one kind", all.isIn(1, 0, 0), false);
            Check.isTrue("2 papers 63, all kinds", all.isIn(2, 0, 0));
            TenderHall others = openedWithPapers(63 - (1 << needed), needed);
            Check.same("2 papers but one, that kind alone", others.isIn(0, 0, 0), false);
            Check.isTrue("2 papers but one, all but that kind", others.isIn(1, 0, 0));
            Check.isTrue("2 papers 0, no kind at all", openedWithPapers(0, needed).isIn(3, 0, 0));
        }
    }

    /** Bidder 0 has this kind alone, bidder 1 all others, bidder 2 all, bidder 3 none. */
    private static TenderHall openedWithPapers(int papers, int kind) {
        TenderHall hall = new TenderHall();
        hall.addTender(1, papers, 50, 0);
        hall.addLot(0, 0);
        for (int b = 0; b < 4; b++) {
            hall.bid(b, 0, 0, 5, 5);
        }
        for (int k = 0; k < 6; k++) {
            hall.paper(k == kind ? 0 : 1, k, 1);
            hall.paper(2, k, 1);
        }
        hall.pass(1);
        return hall;
    }

    /** Promise 2: "weight: 0 to 100". */
    private static void weightRange() {
        Edges.range("2 weight: 0 to 100", 0, 100, Check.ARGUMENT, TenderHall::new, (h, v) -> h.addTender(9, 0, v, 0));
    }

    /** Terms: "a weight of the price, 0 to 100". */
    private static void weightEnds() {
        int[][] due = {{0, 70000}, {1, 666 + 69300}, {99, 65934 + 700}, {100, 66600}};
        for (int[] d : due) {
            TenderHall hall = new TenderHall();
            hall.addTender(1, 0, d[0], 0);
            hall.addLot(0, 0);
            hall.bid(0, 0, 0, 200, 0);
            hall.bid(1, 0, 0, 300, 70);
            hall.pass(1);
            Check.same("2 weight " + d[0], hall.score(1, 0, 0), d[1]);
        }
    }

    /** Promise 2: "standing: 0 to 30 days". */
    private static void standingRange() {
        Edges.range("2 standing: 0 to 30", 0, 30, Check.ARGUMENT, TenderHall::new, (h, v) -> h.addTender(9, 0, 0, v));
    }

    /** Terms: "a standing time in days"; an award is final "the standing time, added, or later". */
    private static void standingEnds() {
        Check.isTrue("2 standing 0 is over at once", Halls.row(2, 0).isFinal(0));
        for (int standing : new int[] {1, 29, 30}) {
            TenderHall hall = Halls.row(2, standing);
            Halls.passTo(hall, standing);
            Check.same("2 standing, the day before", hall.isFinal(0), false);
            hall.pass(1);
            Check.isTrue("2 standing, the day itself", hall.isFinal(0));
        }
    }

    private static TenderHall tenders(int count) {
        TenderHall hall = new TenderHall();
        for (int t = 0; t < count; t++) {
            hall.addTender(1 + t, 0, 0, 0);
        }
        return hall;
    }

    /** Promise 2: "Throws IllegalStateException if there are 6". Terms: "numbered from 0, at most 6". */
    private static void sixTenders() {
        for (int count = 0; count < 6; count++) {
            Check.same("2 the number of a tender", tenders(count).addTender(9, 0, 0, 0), count);
        }
        Edges.refused("2 if there are 6", Check.STATE, () -> tenders(6), h -> h.addTender(9, 0, 0, 0));
        Edges.refusedAll("2 listed first: the argument, with 6", Check.ARGUMENT, () -> tenders(6), List.of(
                h -> h.addTender(0, 0, 0, 0), h -> h.addTender(9, 64, 0, 0), h -> h.addTender(9, 0, 101, 0),
                h -> h.addTender(9, 0, 0, 31)));
        TenderHall opened = tenders(6);
        opened.pass(10);
        Check.fails("2 tenders that are opened count, too", Check.STATE, () -> opened.addTender(20, 0, 0, 0));
        Edges.numbers("3 a tender, of six", 6, () -> tenders(6), (h, v) -> h.addLot(v, 0));
    }

    /** Promise 3: "tender: a tender"; "IndexOutOfBoundsException if there is no such tender". */
    private static void lotOfATender() {
        Edges.numbers("3 a tender, of two", 2, Halls::fourLots, (h, v) -> h.addLot(v, 0));
        for (int tender : new int[] {-1, 2, 6}) {
            Edges.refused("3 listed first: no such tender", Check.INDEX, Halls::fourLots, h -> h.addLot(tender, -1));
            Edges.refused("3 listed first: no such tender, opened", Check.INDEX, Halls::fourOpened,
                    h -> h.addLot(tender, 10001));
        }
    }

    /** Promise 3: "deposit: 0 to 10000". */
    private static void depositRange() {
        Edges.range("3 deposit: 0 to 10000", 0, 10000, Check.ARGUMENT, Halls::sealed, (h, v) -> h.addLot(0, v));
        TenderHall hall = Halls.sealed();
        hall.addLot(0, 0);
        hall.addLot(0, 10000);
        hall.bid(0, 0, 1, 5, 5);
        Check.same("3 a deposit of 0", hall.held(0), 0);
        hall.bid(0, 0, 2, 5, 5);
        Check.same("3 a deposit of 10000", hall.held(0), 10000);
    }

    private static TenderHall lots(int count) {
        TenderHall hall = new TenderHall();
        hall.addTender(3, 0, 0, 0);
        hall.addTender(3, 0, 0, 0);
        for (int lot = 0; lot < count; lot++) {
            hall.addLot(1, 5);
        }
        return hall;
    }

    /** Promise 3: "if it has 3". Terms: "Its lots are numbered from 0, at most 3". */
    private static void threeLots() {
        for (int count = 0; count < 3; count++) {
            Check.same("3 the number of a lot", lots(count).addLot(1, 5), count);
        }
        Edges.refused("3 if it has 3", Check.STATE, () -> lots(3), h -> h.addLot(1, 5));
        Check.same("3 the other tender has none", lots(3).addLot(0, 5), 0);
        for (int deposit : new int[] {-1, 10001}) {
            Edges.refused("3 listed first: the deposit, with 3", Check.ARGUMENT, () -> lots(3),
                    h -> h.addLot(1, deposit));
        }
        Edges.numbers("13 a lot, of three", 3, () -> lots(3), (h, v) -> h.awardOf(1, v));
    }

    /** Promise 3: "or is opened". */
    private static void lotUntilOpened() {
        for (int day = 0; day < 6; day++) {
            int today = day;
            if (day < 3) {
                Edges.taken("3 ahead of the closing day", () -> Halls.onDay(Halls.sealed(), today),
                        h -> h.addLot(0, 5));
            } else {
                Edges.refused("3 is opened", Check.STATE, () -> Halls.onDay(Halls.sealed(), today),
                        h -> h.addLot(0, 5));
                Edges.refused("3 listed first: the deposit, opened", Check.ARGUMENT,
                        () -> Halls.onDay(Halls.sealed(), today), h -> h.addLot(0, -1));
            }
        }
    }

    /** Promise 4: "bidder: 0 to 7", "kind: 0 to 5"; no such one is an IndexOutOfBoundsException. */
    private static void paperWhose() {
        Edges.numbers("4 bidder: 0 to 7", 8, Halls::sealed, (h, v) -> h.paper(v, 0, 5));
        Edges.numbers("4 kind: 0 to 5", 6, Halls::sealed, (h, v) -> h.paper(0, v, 5));
        Edges.refusedAll("4 listed first: no such bidder or kind", Check.INDEX, Halls::sealed, List.of(
                h -> h.paper(-1, 0, -2), h -> h.paper(8, 0, 2001), h -> h.paper(0, -1, 2001), h -> h.paper(7, 6, -2),
                h -> h.paper(1, -1, 5), h -> h.paper(0, 6, 5), h -> h.paper(-1, 6, 5), h -> h.paper(8, -1, 5)));
    }

    /** Promise 4: "until: -1 to 2000; -1 for none". */
    private static void paperUntilRange() {
        Edges.range("4 until: -1 to 2000", -1, 2000, Check.ARGUMENT, Halls::sealed, (h, v) -> h.paper(0, 0, v));
        TenderHall hall = new TenderHall();
        Check.fails("4 until 2001", Check.ARGUMENT, () -> hall.paper(0, 0, 2001));
        Check.same("4 refused, still none", hall.paper(0, 0, 2000), -1);
        Check.fails("4 until -2", Check.ARGUMENT, () -> hall.paper(0, 0, -2));
        Check.same("4 refused, still 2000", hall.paper(0, 0, -1), 2000);
        Check.same("4 none again", hall.paper(0, 0, 0), -1);
        Check.same("4 until 0", hall.paper(0, 0, 1), 0);
    }

    /** Promise 4: "Returns until when it was before"; each bidder and kind has a day of its own. */
    private static void paperBefore() {
        TenderHall hall = new TenderHall();
        for (int b = 0; b < 8; b++) {
            for (int kind = 0; kind < 6; kind++) {
                hall.paper(b, kind, 10 * b + kind);
            }
        }
        for (int b = 0; b < 8; b++) {
            for (int kind = 0; kind < 6; kind++) {
                Check.same("4 until when it was", hall.paper(b, kind, 2000), 10 * b + kind);
            }
        }
    }

    /** Terms: "a bidder has a paper of each kind until some day, that day included". */
    private static void paperThatDayIncluded() {
        for (int closing : new int[] {1, 5, 1000}) {
            for (int until : new int[] {-1, 0, closing - 1, closing, closing + 1, 2000}) {
                TenderHall hall = new TenderHall();
                hall.addTender(closing, 8, 50, 0);
                hall.addLot(0, 9);
                hall.bid(3, 0, 0, 5, 5);
                hall.paper(3, 3, until);
                Halls.passTo(hall, closing);
                String what = "4 until " + until + ", closing " + closing;
                Check.same(what, hall.isIn(3, 0, 0), until >= closing);
                Check.same(what + ", deposit", hall.held(3), until >= closing ? 9 : 0);
            }
        }
    }

    /** Terms: "lacks some needed paper on that day"; "(Papers that come later change nothing by themselves.)" */
    private static void papersThatComeLater() {
        TenderHall hall = new TenderHall();
        hall.addTender(3, 1, 50, 2);
        hall.addLot(0, 9);
        for (int b = 0; b < 4; b++) {
            hall.bid(b, 0, 0, 5, 50 - b);
        }
        hall.paper(0, 0, 2);
        hall.paper(1, 0, 3);
        hall.pass(2);
        hall.paper(2, 0, 2000);
        hall.paper(1, 0, 3);
        hall.pass(1);
        hall.paper(0, 0, 2000);
        hall.paper(3, 0, 3);
        hall.paper(2, 0, -1);
        Check.same("4 told on the day itself, but behind the opening", hall.isIn(3, 0, 0), false);
        Check.same("4 run out the day before", hall.isIn(0, 0, 0), false);
        Check.isTrue("4 until the day itself", hall.isIn(1, 0, 0));
        Check.isTrue("4 told on the day before, taken away behind the opening", hall.isIn(2, 0, 0));
        hall.pass(1);
        Check.same("4 nor on the day after", hall.isIn(0, 0, 0), false);
        Check.isTrue("4 in on the day after", hall.isIn(2, 0, 0));
        Check.same("4 in by papers alone", hall.ranked(0, 0, 2), NONE);
        Check.same("4 the winner as it was opened", hall.winnerAnew(0, 0), 1);
    }

    /** Promise 7: "days: 1 to 100". */
    private static void daysRange() {
        Edges.range("7 days: 1 to 100", 1, 100, Check.ARGUMENT, Halls::dismissed, TenderHall::pass);
        for (int days : new int[] {1, 2, 99, 100}) {
            TenderHall hall = new TenderHall();
            hall.pass(days);
            Check.same("8 today is so many days later", hall.today(), days);
        }
    }

    /** Promise 7: "IllegalStateException if today would be above 2000". */
    private static void todayUpTo2000() {
        for (int left : new int[] {1, 2, 99, 100}) {
            TenderHall hall = Halls.onDay(2000 - left);
            Check.same("7 up to day 2000", hall.pass(left), 0);
            Check.same("8 today is 2000", hall.today(), 2000);
        }
        for (int left : new int[] {0, 1, 50, 99}) {
            Edges.refused("7 to day 2001", Check.STATE, () -> Halls.onDay(2000 - left), h -> h.pass(left + 1));
            Edges.refused("7 far above 2000", Check.STATE, () -> Halls.onDay(2000 - left), h -> h.pass(100));
        }
        for (int days : new int[] {0, -1, 101, Integer.MAX_VALUE, Integer.MIN_VALUE}) {
            Edges.refused("7 listed first: the range", Check.ARGUMENT, () -> Halls.onDay(2000), h -> h.pass(days));
            Edges.refused("7 listed first: the range", Check.ARGUMENT, () -> Halls.onDay(1950), h -> h.pass(days));
        }
    }

    /** Promise 7: the day 2000 passes like any other: "Returns how many awards lapse in them". */
    private static void lapseOnTheLastDay() {
        TenderHall hall = new TenderHall();
        hall.addTender(1000, 0, 0, 0);
        hall.addLot(0, 3);
        hall.bid(0, 0, 0, 5, 5);
        hall.bid(1, 0, 0, 5, 4);
        Halls.passTo(hall, 1970);
        hall.award(0, 0);
        Check.same("7 up to day 1999", hall.pass(29), 0);
        Check.fails("7 to day 2001", Check.STATE, () -> hall.pass(2));
        Check.same("7 nothing lapsed by what was refused", hall.isVoid(0), false);
        Check.same("7 on day 2000", hall.pass(1), 1);
        Check.same("7 lost on day 2000", hall.lost(0), 3);
        Check.same("24 signed on day 2000", hall.sign(1), 0);
    }

    /** Terms: "A day passes so: today grows by 1; the tenders with this closing day are opened". */
    private static void openedWithinAPass() {
        TenderHall hall = new TenderHall();
        for (int t = 0; t < 4; t++) {
            hall.addTender(new int[] {1, 50, 100, 101}[t], 2, 50, 0);
            hall.addLot(t, 1);
            for (int b = 0; b < 4; b++) {
                hall.bid(b, t, 0, 5, 5);
            }
        }
        for (int b = 0; b < 4; b++) {
            hall.paper(b, 1, new int[] {1, 49, 50, 100}[b]);
        }
        hall.pass(100);
        String[] due = {"yyyy", "nnyy", "nnny", "nnnn"};
        for (int t = 0; t < 4; t++) {
            for (int b = 0; b < 4; b++) {
                Check.same("7 opened by the papers of its own day", hall.isIn(b, t, 0), due[t].charAt(b) == 'y');
            }
        }
        Check.same("7 the day after is not opened yet", hall.withdraw(0, 3, 0), 5);
    }

    /** Promise 8: "Returns today."; a refused pass leaves it. */
    private static void todayStays() {
        TenderHall hall = Halls.onDay(7);
        Check.fails("7 days 0", Check.ARGUMENT, () -> hall.pass(0));
        Check.fails("7 days 101", Check.ARGUMENT, () -> hall.pass(101));
        Check.same("8 today stays", hall.today(), 7);
        hall.pass(1);
        Check.same("8 the day after", hall.today(), 8);
    }
}
