import java.util.List;

/** Boundaries of promises 5, 6 and 9 to 11, and of Terms on bids and scores; each comment quotes its sentence. */
final class BidEdgesTest {
    private static final int NONE = TenderHall.NONE;

    private BidEdgesTest() {
    }

    static void run() {
        whoseBid();
        priceRange();
        qualityRange();
        howManyBids();
        bidUntilOpened();
        refusedBidsListedFirst();
        withdrawReturnsPrice();
        withdrawNoSuchBid();
        withdrawUntilOpened();
        takenBackAndMadeAgain();
        isInEdges();
        scoreOfNone();
        scoreRoundedDown();
        leastPriceOfThoseIn();
        leastPriceChanges();
        rankedPlaces();
        rankedListedFirst();
        tieByPrice();
        tieByTime();
        madeAnewCountsFromThen();
        tieByRounding();
        oneScoreApart();
    }

    /** Promises 5, 6, 9, 10, 11: "bidder: 0 to 7", "tender: a tender", "lot: a lot of it". */
    private static void whoseBid() {
        Edges.numbers("5 bidder: 0 to 7", 8, Halls::fourLots, (h, v) -> h.bid(v, 0, 0, 5, 5));
        Edges.numbers("5 tender, of two", 2, Halls::fourLots, (h, v) -> h.bid(0, v, 1, 5, 5));
        Edges.numbers("5 lot, of two", 2, Halls::fourLots, (h, v) -> h.bid(0, 1, v, 5, 5));
        Edges.numbers("6 tender, of two", 2, Halls::fourLots, (h, v) -> h.withdraw(0, v, 1));
        Edges.numbers("6 lot, of two", 2, Halls::fourLots, (h, v) -> h.withdraw(0, 1, v));
        Edges.numbers("6 bidder: 0 to 7", 8, BidEdgesTest::eightBids, (h, v) -> h.withdraw(v, 0, 0));
        Edges.numbers("9 bidder: 0 to 7", 8, Halls::fourOpened, (h, v) -> h.isIn(v, 0, 0));
        Edges.numbers("9 tender, of two", 2, Halls::fourOpened, (h, v) -> h.isIn(0, v, 1));
        Edges.numbers("9 lot, of two", 2, Halls::fourOpened, (h, v) -> h.isIn(0, 1, v));
        Edges.numbers("10 bidder: 0 to 7", 8, Halls::fourOpened, (h, v) -> h.score(v, 0, 0));
        Edges.numbers("10 tender, of two", 2, Halls::fourOpened, (h, v) -> h.score(0, v, 1));
        Edges.numbers("10 lot, of two", 2, Halls::fourOpened, (h, v) -> h.score(0, 1, v));
        Edges.numbers("11 tender, of two", 2, Halls::fourOpened, (h, v) -> h.ranked(v, 1, 0));
        Edges.numbers("11 lot, of two", 2, Halls::fourOpened, (h, v) -> h.ranked(1, v, 0));
    }

    private static TenderHall eightBids() {
        TenderHall hall = Halls.sealed();
        for (int b = 0; b < 8; b++) {
            hall.bid(b, 0, 0, 100 + b, 50);
        }
        return hall;
    }

    /** Promise 5: "price: 1 to 100000". */
    private static void priceRange() {
        Edges.range("5 price: 1 to 100000", 1, 100000, Check.ARGUMENT, Halls::sealed, (h, v) -> h.bid(0, 0, 0, v, 50));
        for (int price : new int[] {1, 100000}) {
            TenderHall hall = Halls.sealed();
            hall.bid(0, 0, 0, price, 50);
            Check.same("5 the price " + price, hall.withdraw(0, 0, 0), price);
        }
    }

    /** Promise 5: "quality: 0 to 100". */
    private static void qualityRange() {
        Edges.range("5 quality: 0 to 100", 0, 100, Check.ARGUMENT, Halls::sealed, (h, v) -> h.bid(0, 0, 0, 50, v));
        for (int quality : new int[] {0, 1, 99, 100}) {
            TenderHall hall = Halls.sealed();
            hall.bid(0, 0, 0, 50, quality);
            hall.pass(3);
            Check.same("5 the quality " + quality, hall.score(0, 0, 0), 50000 + 500 * quality);
        }
    }

    /** Promise 5: "Returns how many bids there are for this lot then": none, up to all eight, and anew. */
    private static void howManyBids() {
        TenderHall hall = Halls.fourLots();
        hall.withdraw(0, 1, 1);
        for (int b = 0; b < 8; b++) {
            Check.same("5 how many", hall.bid(b, 1, 1, 9, 9), b + 1);
        }
        for (int b = 0; b < 8; b++) {
            Check.same("5 anew, in place of the earlier one", hall.bid(b, 1, 1, 8, 8), 8);
        }
        hall.withdraw(3, 1, 1);
        Check.same("5 one taken back, one anew", hall.bid(4, 1, 1, 8, 8), 7);
        Check.same("5 for this lot, not another", hall.bid(4, 1, 0, 8, 8), 2);
        Check.same("5 of this tender, not another", hall.bid(4, 0, 1, 8, 8), 2);
    }

    /** Terms: "on days ahead of the closing day". Promise 5: "IllegalStateException if the tender is opened". */
    private static void bidUntilOpened() {
        for (int day = 0; day < 6; day++) {
            int today = day;
            if (day < 3) {
                Edges.taken("5 ahead of the closing day", () -> bidOn(today), h -> h.bid(0, 0, 0, 5, 5));
                Edges.taken("5 anew ahead of the closing day", () -> bidOn(today), h -> h.bid(1, 0, 0, 5, 5));
            } else {
                Edges.refused("5 is opened", Check.STATE, () -> bidOn(today), h -> h.bid(0, 0, 0, 5, 5));
                Edges.refused("5 is opened, anew", Check.STATE, () -> bidOn(today), h -> h.bid(1, 0, 0, 5, 5));
            }
        }
        TenderHall hall = new TenderHall();
        hall.addTender(1, 0, 0, 0);
        hall.addTender(2, 0, 0, 0);
        hall.addLot(0, 0);
        hall.addLot(1, 0);
        hall.pass(1);
        Check.fails("5 the one is opened", Check.STATE, () -> hall.bid(0, 0, 0, 5, 5));
        Check.same("5 the other is not", hall.bid(0, 1, 0, 5, 5), 1);
    }

    private static TenderHall bidOn(int day) {
        TenderHall hall = Halls.sealed();
        hall.bid(1, 0, 0, 77, 50);
        Halls.passTo(hall, day);
        return hall;
    }

    /** Terms: "If several exceptions of a throws clause apply, the one that is listed first is thrown." */
    private static void refusedBidsListedFirst() {
        Edges.refusedAll("5 no such one ahead of the range", Check.INDEX, Halls::fourLots, List.of(
                h -> h.bid(8, 0, 0, 0, 50), h -> h.bid(-1, 0, 0, 5, 101), h -> h.bid(0, 2, 0, 100001, 5),
                h -> h.bid(0, 0, 2, 5, -1), h -> h.bid(0, -1, 0, 0, -1), h -> h.bid(0, 0, -1, 0, 101),
                h -> h.bid(8, 2, 2, 0, 101)));
        Edges.refusedAll("5 no such one ahead of the state", Check.INDEX, Halls::fourOpened, List.of(
                h -> h.bid(8, 0, 0, 5, 5), h -> h.bid(-1, 0, 0, 5, 5), h -> h.bid(0, 2, 0, 5, 5),
                h -> h.bid(0, 0, 2, 5, 5), h -> h.bid(8, 0, 0, 0, 5)));
        Edges.refusedAll("5 the range ahead of the state", Check.ARGUMENT, Halls::fourOpened, List.of(
                h -> h.bid(0, 0, 0, 0, 5), h -> h.bid(0, 0, 0, 100001, 5), h -> h.bid(0, 0, 0, 5, -1),
                h -> h.bid(1, 0, 0, 5, 101)));
        Edges.refusedAll("6 no such one ahead of the state", Check.INDEX, Halls::fourOpened, List.of(
                h -> h.withdraw(8, 0, 0), h -> h.withdraw(-1, 0, 0), h -> h.withdraw(0, 2, 0),
                h -> h.withdraw(0, 0, 2), h -> h.withdraw(0, -1, 0), h -> h.withdraw(0, 0, -1)));
    }

    /** Promise 6: "Returns its price": of the bid that was made last. */
    private static void withdrawReturnsPrice() {
        TenderHall hall = Halls.fourLots();
        hall.bid(0, 0, 1, 1, 5);
        hall.bid(1, 0, 1, 100000, 5);
        hall.bid(0, 0, 1, 99999, 5);
        Check.same("6 the later price", hall.withdraw(0, 0, 1), 99999);
        Check.same("6 of another bidder", hall.withdraw(1, 0, 1), 100000);
        Check.same("6 of another lot", hall.withdraw(0, 0, 0), 100);
        Check.same("6 nothing is left of the tender", hall.held(0) + hall.held(1), 10);
    }

    /** Promise 6: "or there is no such bid". */
    private static void withdrawNoSuchBid() {
        Edges.refused("6 none was made", Check.STATE, Halls::sealed, h -> h.withdraw(0, 0, 0));
        Edges.refused("6 another bidder's", Check.STATE, Halls::fourLots, h -> h.withdraw(1, 0, 0));
        Edges.refused("6 taken back before", Check.STATE, () -> withoutOne(0), h -> h.withdraw(0, 0, 0));
        Edges.taken("6 the one for another lot", () -> withoutOne(0), h -> h.withdraw(0, 0, 1));
        Edges.refused("6 none was made, opened", Check.STATE, Halls::fourOpened, h -> h.withdraw(1, 0, 0));
    }

    private static TenderHall withoutOne(int lot) {
        TenderHall hall = Halls.fourLots();
        hall.withdraw(0, 0, lot);
        return hall;
    }

    /** Promise 6: "IllegalStateException if the tender is opened". */
    private static void withdrawUntilOpened() {
        for (int day = 0; day < 6; day++) {
            int today = day;
            if (day < 3) {
                Edges.taken("6 ahead of the closing day", () -> bidOn(today), h -> h.withdraw(1, 0, 0));
            } else {
                Edges.refused("6 is opened", Check.STATE, () -> bidOn(today), h -> h.withdraw(1, 0, 0));
            }
        }
    }

    /** Terms: "and taken back"; a bid that was taken back is not there when the tender is opened. */
    private static void takenBackAndMadeAgain() {
        TenderHall hall = eightBids();
        hall.pass(2);
        for (int b = 0; b < 8; b++) {
            Check.same("6 each of eight", hall.withdraw(b, 0, 0), 100 + b);
            Check.same("28 given back", hall.held(b), 0);
        }
        Check.same("5 the first once more", hall.bid(6, 0, 0, 300, 50), 1);
        Check.same("28 held once more", hall.held(6), 100);
        hall.pass(1);
        Check.same("11 that one alone", hall.ranked(0, 0, 0), 6);
        Check.same("11 nobody behind it", hall.ranked(0, 0, 1), NONE);
        Check.same("10 with its own price as the least", hall.score(6, 0, 0), 50000 + 25000);
        Check.same("9 one that was taken back", hall.isIn(0, 0, 0), false);
    }

    /** Promise 9: "Returns whether there is one that is in; false ahead of the opening." */
    private static void isInEdges() {
        for (int day = 0; day < 6; day++) {
            TenderHall hall = bidOn(day);
            Check.same("9 false ahead of the opening, day " + day, hall.isIn(1, 0, 0), day >= 3);
            Check.same("9 without a bid, day " + day, hall.isIn(0, 0, 0), false);
        }
        TenderHall hall = Halls.rowWithOutsider(2, 5);
        Check.same("9 out since the opening", hall.isIn(7, 0, 0), false);
        hall.complain(7, 0, TenderHall.EXCLUDED);
        Check.same("9 out while it complains", hall.isIn(7, 0, 0), false);
        hall.rule(0, true, 0);
        Check.isTrue("9 in by what was ruled", hall.isIn(7, 0, 0));
        hall.complain(1, 1, TenderHall.PAPERS);
        hall.rule(1, true, 0);
        Check.same("9 out for good", hall.isIn(7, 0, 0), false);
        hall.pass(35);
        Check.same("9 lapsed", hall.isIn(0, 0, 0), false);
        Check.isTrue("9 the last one", hall.isIn(1, 0, 0));
    }

    /** Promise 10: "NONE if there is no bid that is in". */
    private static void scoreOfNone() {
        for (int day = 0; day < 6; day++) {
            TenderHall hall = bidOn(day);
            Check.same("10 ahead of the opening, day " + day, hall.score(1, 0, 0), day >= 3 ? 75000 : NONE);
            Check.same("10 without a bid, day " + day, hall.score(0, 0, 0), NONE);
        }
        Check.same("10 out for lack of papers", Halls.rowWithOutsider(1, 5).score(7, 0, 0), NONE);
        TenderHall least = new TenderHall();
        least.addTender(1, 0, 0, 0);
        least.addLot(0, 0);
        least.bid(0, 0, 0, 100000, 0);
        least.pass(1);
        Check.same("10 a score of 0 is not NONE", least.score(0, 0, 0), 0);
    }

    /** Terms: "times 1000, divided by its own, rounded down; this times the weight of the price". */
    private static void scoreRoundedDown() {
        int[][] due = {{1, 1, 1000}, {1, 2, 500}, {1, 3, 333}, {2, 3, 666}, {1, 1000, 1}, {1, 1001, 0}, {1, 999, 1},
            {1, 100000, 0}, {999, 1000, 999}, {1000, 1001, 999}, {99999, 100000, 999}, {100000, 100000, 1000},
            {7, 8, 875}, {501, 1000, 501}, {500, 1001, 499}, {50000, 100000, 500}, {49999, 100000, 499}};
        for (int[] d : due) {
            for (int weight : new int[] {0, 1, 50, 99, 100}) {
                TenderHall hall = new TenderHall();
                hall.addTender(1, 0, weight, 0);
                hall.addLot(0, 0);
                hall.bid(0, 0, 0, d[1], 33);
                hall.bid(1, 0, 0, d[0], 100);
                hall.pass(1);
                String what = "10 of " + d[0] + " by " + d[1] + ", weight " + weight;
                Check.same(what, hall.score(0, 0, 0), d[2] * weight + 330 * (100 - weight));
                Check.same(what + ", the least", hall.score(1, 0, 0), 100000);
            }
        }
    }

    /** Terms: "of all prices of bids for the lot that are in the least one". */
    private static void leastPriceOfThoseIn() {
        TenderHall hall = new TenderHall();
        hall.addTender(3, 1, 100, 5);
        hall.addLot(0, 0);
        hall.addLot(0, 0);
        for (int b = 0; b < 4; b++) {
            hall.paper(b, 0, b == 1 ? 2 : 3);
        }
        hall.bid(0, 0, 0, 1000, 0);
        hall.bid(1, 0, 0, 1, 100);
        hall.bid(2, 0, 0, 2, 100);
        hall.bid(3, 0, 0, 3, 100);
        hall.bid(3, 0, 0, 800, 100);
        hall.bid(0, 0, 1, 4, 100);
        hall.withdraw(2, 0, 0);
        hall.pass(3);
        Check.same("10 not what is out, taken back, replaced or of another lot", hall.score(0, 0, 0), 80000);
        Check.same("10 the least one itself", hall.score(3, 0, 0), 100000);
        Check.same("10 of the other lot", hall.score(0, 0, 1), 100000);
    }

    /** Terms: the least price of "bids for the lot that are in" is another one when one goes out or comes in. */
    private static void leastPriceChanges() {
        TenderHall hall = new TenderHall();
        hall.addTender(1, 1, 100, 5);
        hall.addLot(0, 0);
        hall.bid(0, 0, 0, 400, 0);
        hall.bid(1, 0, 0, 500, 0);
        hall.bid(2, 0, 0, 100, 0);
        hall.paper(0, 0, 1);
        hall.paper(1, 0, 1);
        hall.pass(1);
        hall.award(0, 0);
        Check.same("10 by 400", hall.score(1, 0, 0), 80000);
        hall.complain(2, 0, TenderHall.EXCLUDED);
        hall.rule(0, true, 0);
        Check.same("10 by 100, which was let in", hall.score(1, 0, 0), 20000);
        Check.same("10 so does the other", hall.score(0, 0, 0), 25000);
        hall.complain(1, 1, TenderHall.PAPERS);
        hall.rule(1, true, 0);
        Check.same("10 by 400 again", hall.score(1, 0, 0), 80000);
        hall.pass(35);
        Check.same("10 by its own, the last one", hall.score(1, 0, 0), 100000);
        Check.same("10 lapsed", hall.score(0, 0, 0), NONE);
    }

    /** Promise 11: "place: 0 for the best one"; "NONE if not so many are in"; "if place is below 0". */
    private static void rankedPlaces() {
        for (int count = 0; count <= 7; count++) {
            TenderHall hall = Halls.sealed();
            for (int b = 0; b < count; b++) {
                hall.bid(b, 0, 0, 100, 50 + b);
            }
            hall.pass(2);
            Check.same("11 ahead of the opening", hall.ranked(0, 0, 0), NONE);
            hall.pass(1);
            for (int place = 0; place < count; place++) {
                Check.same("11 place " + place + " of " + count, hall.ranked(0, 0, place), count - 1 - place);
            }
            for (int place : new int[] {count, count + 1, 8, Integer.MAX_VALUE}) {
                Check.same("11 not so many are in", hall.ranked(0, 0, place), NONE);
            }
        }
        Check.same("11 the last of eight", opened(eightBids()).ranked(0, 0, 7), 7);
        Check.same("11 behind eight", opened(eightBids()).ranked(0, 0, 8), NONE);
        for (int place : new int[] {-1, -2, Integer.MIN_VALUE}) {
            Edges.refused("11 place is below 0", Check.ARGUMENT, Halls::opened, h -> h.ranked(0, 0, place));
            Edges.refused("11 place is below 0, none is in", Check.ARGUMENT, Halls::sealed, h -> h.ranked(0, 0, place));
        }
        Check.same("11 those that are out have no place", Halls.rowWithOutsider(2, 5).ranked(0, 0, 2), NONE);
    }

    private static TenderHall opened(TenderHall hall) {
        Halls.passTo(hall, 3);
        return hall;
    }

    /** Promise 11: no such tender or lot is listed ahead of a place below 0. */
    private static void rankedListedFirst() {
        Edges.refusedAll("11 no such one ahead of the place", Check.INDEX, Halls::fourOpened, List.of(
                h -> h.ranked(2, 0, -1), h -> h.ranked(-1, 0, -1), h -> h.ranked(0, 2, -1), h -> h.ranked(0, -1, -1),
                h -> h.ranked(6, 3, Integer.MIN_VALUE)));
        Edges.refused("11 place below 0, sealed", Check.ARGUMENT, Halls::fourLots, h -> h.ranked(0, 0, -1));
    }

    /** Terms: "with the same score, than one with a higher price". */
    private static void tieByPrice() {
        for (int turn = 0; turn < 2; turn++) {
            TenderHall hall = Halls.sealed();
            int cheap = turn;
            int dear = 1 - turn;
            for (int b = 0; b < 2; b++) {
                hall.bid(b, 0, 0, b == cheap ? 100 : 200, b == cheap ? 40 : 90);
            }
            hall.pass(3);
            Check.same("11 the cheap one's score", hall.score(cheap, 0, 0), 70000);
            Check.same("11 the same score", hall.score(dear, 0, 0), 70000);
            Check.same("11 the lower price is better", hall.ranked(0, 0, 0), cheap);
            Check.same("11 the higher price behind it", hall.ranked(0, 0, 1), dear);
            hall.award(0, 0);
            Check.same("12 awarded by the tie", hall.winner(0), cheap);
            Check.same("17 found by the tie", hall.winnerAnew(0, 0), cheap);
        }
    }

    /** Terms: "with that the same, too, than one that was made later". */
    private static void tieByTime() {
        for (int first = 0; first < 8; first++) {
            TenderHall hall = Halls.sealed();
            for (int i = 0; i < 8; i++) {
                hall.bid((first + 3 * i) % 8, 0, 0, 100, 50);
                if (i == 4) {
                    hall.pass(2);
                }
            }
            hall.pass(1);
            for (int place = 0; place < 8; place++) {
                Check.same("11 the earlier is better", hall.ranked(0, 0, place), (first + 3 * place) % 8);
            }
            Check.same("17 the earliest", hall.winnerAnew(0, 0), first);
            hall.award(0, 0);
            Check.same("12 to the earliest", hall.winner(0), first);
        }
    }

    /** Terms: "(a bid made anew counts from then)". */
    private static void madeAnewCountsFromThen() {
        TenderHall hall = Halls.sealed();
        for (int b = 0; b < 4; b++) {
            hall.bid(b, 0, 0, 100, 50);
        }
        hall.bid(0, 0, 0, 100, 50);
        hall.bid(2, 0, 0, 999, 1);
        hall.bid(2, 0, 0, 100, 50);
        hall.withdraw(1, 0, 0);
        hall.bid(1, 0, 0, 100, 50);
        Check.fails("5 a refused one does not count", Check.ARGUMENT, () -> hall.bid(3, 0, 0, 100, 101));
        Check.fails("5 a refused one does not count", Check.ARGUMENT, () -> hall.bid(3, 0, 0, 0, 50));
        hall.pass(3);
        Check.fails("5 nor one behind the opening", Check.STATE, () -> hall.bid(3, 0, 0, 100, 50));
        int[] due = {3, 0, 2, 1};
        for (int place = 0; place < 4; place++) {
            Check.same("11 made anew, place " + place, hall.ranked(0, 0, place), due[place]);
        }
    }

    /** Terms: two prices with the same part of 1000, "rounded down", have the same score: the price decides. */
    private static void tieByRounding() {
        TenderHall hall = new TenderHall();
        hall.addTender(1, 0, 100, 0);
        hall.addLot(0, 0);
        hall.bid(0, 0, 0, 1003, 100);
        hall.bid(1, 0, 0, 1002, 0);
        hall.bid(2, 0, 0, 1001, 100);
        hall.bid(3, 0, 0, 1000, 0);
        hall.pass(1);
        int[] due = {100000, 99900, 99800, 99700};
        for (int place = 0; place < 4; place++) {
            Check.same("11 by rounding, place " + place, hall.ranked(0, 0, place), 3 - place);
            Check.same("10 by rounding, place " + place, hall.score(3 - place, 0, 0), due[place]);
        }
        TenderHall same = new TenderHall();
        same.addTender(1, 0, 100, 0);
        same.addLot(0, 0);
        same.bid(0, 0, 0, 100000, 100);
        same.bid(1, 0, 0, 99999, 0);
        same.bid(2, 0, 0, 50, 0);
        same.pass(1);
        Check.same("10 both rounded down to 0", same.score(0, 0, 0) + same.score(1, 0, 0), 0);
        Check.same("11 the lower price of the two", same.ranked(0, 0, 1), 1);
        Check.same("11 the higher price of the two", same.ranked(0, 0, 2), 0);
    }

    /** Terms: "A bid is better than another one with a lower score": a little more decides ahead of the price. */
    private static void oneScoreApart() {
        int[][] due = {{98, 98990, 0}, {99, 99000, 0}, {100, 99010, 1}};
        for (int[] d : due) {
            TenderHall hall = new TenderHall();
            hall.addTender(1, 0, 99, 0);
            hall.addLot(0, 0);
            hall.bid(1, 0, 0, 1010, d[0]);
            hall.bid(0, 0, 0, 1000, 0);
            hall.pass(1);
            Check.same("10 with quality " + d[0], hall.score(1, 0, 0), d[1]);
            Check.same("10 the lower price", hall.score(0, 0, 0), 99000);
            Check.same("11 below, the same and above", hall.ranked(0, 0, 0), d[2]);
        }
    }
}
