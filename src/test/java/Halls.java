/** Small halls that many tests begin with. */
final class Halls {
    private Halls() {
    }

    /** A tender that closes on day 3, by price and quality alike, with a standing time of 4, and a lot. */
    static TenderHall sealed() {
        TenderHall hall = new TenderHall();
        hall.addTender(3, 0, 50, 4);
        hall.addLot(0, 100);
        return hall;
    }

    /** Three bids, the best first; bidder 3 lacks the needed paper 2; opened on day 3. */
    static TenderHall opened() {
        TenderHall hall = new TenderHall();
        hall.addTender(3, 4, 50, 4);
        hall.addLot(0, 100);
        for (int b = 0; b < 3; b++) {
            hall.paper(b, 2, 50);
        }
        hall.bid(0, 0, 0, 1000, 90);
        hall.bid(1, 0, 0, 1100, 80);
        hall.bid(2, 0, 0, 1200, 70);
        hall.bid(3, 0, 0, 900, 100);
        hall.pass(3);
        return hall;
    }

    /** The same with award 0 to bidder 0, on day 3, which is final from day 7. */
    static TenderHall awarded() {
        TenderHall hall = opened();
        hall.award(0, 0);
        return hall;
    }

    /** The same with complaint 0 of bidder 1 on quality, still open. */
    static TenderHall complained() {
        TenderHall hall = awarded();
        hall.complain(1, 0, TenderHall.QUALITY);
        return hall;
    }

    /** The same with that complaint dismissed on day 3. */
    static TenderHall dismissed() {
        TenderHall hall = complained();
        hall.rule(0, false, 0);
        return hall;
    }

    /** The same on day 7, with contract 0 on award 0. */
    static TenderHall signed() {
        TenderHall hall = dismissed();
        hall.pass(4);
        hall.sign(0);
        return hall;
    }

    /** Nothing but a day. */
    static TenderHall onDay(int day) {
        TenderHall hall = new TenderHall();
        passTo(hall, day);
        return hall;
    }

    static TenderHall onDay(TenderHall hall, int day) {
        passTo(hall, day);
        return hall;
    }

    static void passTo(TenderHall hall, int day) {
        for (int i = 0; i < 20 && hall.today() < day; i++) {
            hall.pass(Math.min(100, day - hall.today()));
        }
    }

    /**
     * A lot with deposit 10 where quality alone counts: bidder b bids 100 with quality 90 - b.
     * It opens on day 1, and award 0 goes to bidder 0 on that day.
     */
    static TenderHall row(int bidders, int standing) {
        TenderHall hall = new TenderHall();
        hall.addTender(1, 0, 0, standing);
        hall.addLot(0, 10);
        for (int b = 0; b < bidders; b++) {
            hall.bid(b, 0, 0, 100, 90 - b);
        }
        hall.pass(1);
        hall.award(0, 0);
        return hall;
    }

    /** The same, where bidder 7, with quality 100, is out for lack of paper 0. */
    static TenderHall rowWithOutsider(int bidders, int standing) {
        TenderHall hall = new TenderHall();
        hall.addTender(1, 1, 0, standing);
        hall.addLot(0, 10);
        for (int b = 0; b < bidders; b++) {
            hall.paper(b, 0, 1);
            hall.bid(b, 0, 0, 100, 90 - b);
        }
        hall.bid(7, 0, 0, 100, 100);
        hall.pass(1);
        hall.award(0, 0);
        return hall;
    }

    /** Nine lots of eight bids, the better the lower the bidder; award n is of tender n / 3, lot n % 3, on day 1. */
    static TenderHall nineAwards() {
        TenderHall hall = new TenderHall();
        for (int t = 0; t < 3; t++) {
            hall.addTender(1, 0, 0, 5);
            for (int lot = 0; lot < 3; lot++) {
                hall.addLot(t, 1);
                for (int b = 0; b < 8; b++) {
                    hall.bid(b, t, lot, 5, 50 - b);
                }
            }
        }
        hall.pass(1);
        for (int award = 0; award < 9; award++) {
            hall.award(award / 3, award % 3);
        }
        return hall;
    }

    /** The only bid, with this price, awarded and signed on day 1: contract 0. */
    static TenderHall signedAt(int price) {
        TenderHall hall = new TenderHall();
        hall.addTender(1, 0, 0, 0);
        hall.addLot(0, 0);
        hall.bid(0, 0, 0, price, 5);
        hall.pass(1);
        hall.award(0, 0);
        hall.sign(0);
        return hall;
    }

    /** Two lots of bidders 0 and 1, and so many awards of the first: all to bidder 0, each but the last sent back. */
    static TenderHall withAwards(int count) {
        TenderHall hall = new TenderHall();
        hall.addTender(1, 0, 0, 30);
        hall.addLot(0, 7);
        hall.addLot(0, 11);
        for (int lot = 0; lot < 2; lot++) {
            hall.bid(0, 0, lot, 10, 100);
            hall.bid(1, 0, lot, 10, 50);
        }
        hall.pass(1);
        return awardAndSendBack(hall, count);
    }

    /** The same, where the bid of bidder 1 is out for lack of papers: bidder 0 alone is in. */
    static TenderHall withAwardsOfOne(int count) {
        TenderHall hall = new TenderHall();
        hall.addTender(1, 1, 0, 30);
        hall.addLot(0, 7);
        hall.addLot(0, 11);
        hall.paper(0, 0, 1);
        hall.bid(0, 0, 0, 10, 100);
        hall.bid(0, 0, 1, 10, 100);
        hall.bid(1, 0, 0, 10, 50);
        hall.pass(1);
        return awardAndSendBack(hall, count);
    }

    private static TenderHall awardAndSendBack(TenderHall hall, int count) {
        hall.award(0, 0);
        for (int i = 1; i < count; i++) {
            hall.complain(1, i - 1, TenderHall.QUALITY);
            hall.rule(i - 1, true, 100);
        }
        return hall;
    }

    /** Two tenders that close on day 3, with two lots each, and a bid of bidder 0 for each lot. */
    static TenderHall fourLots() {
        TenderHall hall = new TenderHall();
        for (int t = 0; t < 2; t++) {
            hall.addTender(3, 0, 50, 4);
            for (int lot = 0; lot < 2; lot++) {
                hall.addLot(t, 5);
                hall.bid(0, t, lot, 100, 50);
            }
        }
        return hall;
    }

    /** The same on day 3: opened. */
    static TenderHall fourOpened() {
        TenderHall hall = fourLots();
        hall.pass(3);
        return hall;
    }

    static String lineOf(TenderHall hall, int award) {
        StringBuilder text = new StringBuilder();
        int length = hall.line(award);
        for (int i = 0; i < length; i++) {
            text.append(hall.lineChar(award, i));
        }
        return text.toString();
    }
}
