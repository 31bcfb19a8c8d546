/** Small halls that many tests begin with. */
final class Halls {
    private Halls() {
    }

    /** A tender that closes on day 3, by price and quality alike, with a standing time of 4, and a lot. */
    static TenderHall sealed() {
        TenderHall hall = new TenderHall();
        hall.addTender(3, 0, 50, 4);
        hall.addLot(0, 100);
        return hall;
    }

    /** Three bids, the best first; bidder 3 lacks the needed paper 2; opened on day 3. */
    static TenderHall opened() {
        TenderHall hall = new TenderHall();
        hall.addTender(3, 4, 50, 4);
        hall.addLot(0, 100);
        for (int b = 0; b < 3; b++) {
            hall.paper(b, 2, 50);
        }
        hall.bid(0, 0, 0, 1000, 90);
        hall.bid(1, 0, 0, 1100, 80);
        hall.bid(2, 0, 0, 1200, 70);
        hall.bid(3, 0, 0, 900, 100);
        hall.pass(3);
        return hall;
    }

    /** The same with award 0 to bidder 0, on day 3, which is final from day 7. */
    static TenderHall awarded() {
        TenderHall hall = opened();
        hall.award(0, 0);
        return hall;
    }

    /** The same with complaint 0 of bidder 1 on quality, still open. */
    static TenderHall complained() {
        TenderHall hall = awarded();
        hall.complain(1, 0, TenderHall.QUALITY);
        return hall;
    }

    /** The same with that complaint dismissed on day 3. */
    static TenderHall dismissed() {
        TenderHall hall = complained();
        hall.rule(0, false, 0);
        return hall;
    }

    /** The same on day 7, with contract 0 on award 0. */
    static TenderHall signed() {
        TenderHall hall = dismissed();
        hall.pass(4);
        hall.sign(0);
        return hall;
    }

    static String lineOf(TenderHall hall, int award) {
        StringBuilder text = new StringBuilder();
        int length = hall.line(award);
        for (int i = 0; i < length; i++) {
            text.append(hall.lineChar(award, i));
        }
        return text.toString();
    }
}
