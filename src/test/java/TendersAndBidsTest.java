/** Promises 1 to 11. */
final class TendersAndBidsTest {
    private static final int NONE = TenderHall.NONE;

    private TendersAndBidsTest() {
    }

    static void run() {
        newObject();
        addTender();
        addTenderWrong();
        addLot();
        addLotWrong();
        paper();
        paperDecides();
        bid();
        bidWrong();
        withdraw();
        pass();
        today();
        isIn();
        score();
        scoreRounds();
        ranked();
        rankedTies();
    }

    private static void newObject() {
        TenderHall hall = new TenderHall();
        Check.same("1 today", hall.today(), 0);
        Check.fails("1 no tender", Check.INDEX, () -> hall.addLot(0, 0));
        Check.fails("1 no award", Check.INDEX, () -> hall.winner(0));
        Check.fails("1 no complaint", Check.INDEX, () -> hall.stateOf(0));
        Check.fails("1 no contract", Check.INDEX, () -> hall.running(0));
        for (int b = 0; b < 8; b++) {
            Check.same("1 nothing held, lost, owed", hall.held(b) + hall.lost(b) + hall.owes(b), 0);
            Check.same("1 no paper", hall.paper(b, 5 - b % 6, 0), -1);
        }
    }

    private static void addTender() {
        TenderHall hall = new TenderHall();
        int[][] good = {{1, 0, 0, 0}, {1000, 63, 100, 30}, {5, 1, 50, 3}, {5, 1, 50, 3}, {2, 32, 1, 1}, {9, 0, 99, 29}};
        for (int i = 0; i < 6; i++) {
            Check.same("2 number", hall.addTender(good[i][0], good[i][1], good[i][2], good[i][3]), i);
            int tender = i;
            Check.fails("2 without lots", Check.INDEX, () -> hall.awardOf(tender, 0));
        }
        Check.fails("2 seventh", Check.STATE, () -> hall.addTender(5, 0, 0, 0));
        Check.fails("2 argument ahead of state", Check.ARGUMENT, () -> hall.addTender(0, 0, 0, 0));
        TenderHall later = new TenderHall();
        later.pass(7);
        Check.same("2 closes tomorrow", later.addTender(8, 0, 0, 0), 0);
    }

    private static void addTenderWrong() {
        int[][] wrong = {{0, 0, 0, 0}, {-1, 0, 0, 0}, {1001, 0, 0, 0}, {2, 0, 0, 0}, {1, 0, 0, 0}, {9, -1, 0, 0},
            {9, 64, 0, 0}, {9, 0, -1, 0}, {9, 0, 101, 0}, {9, 0, 0, -1}, {9, 0, 0, 31},
            {Integer.MIN_VALUE, 0, 0, 0}, {9, Integer.MAX_VALUE, 0, 0}, {9, 0, 0, Integer.MAX_VALUE}};
        for (int[] w : wrong) {
            Check.failsUnchanged("2 out of range " + java.util.Arrays.toString(w), Check.ARGUMENT,
                    TendersAndBidsTest::onDayTwo, h -> h.addTender(w[0], w[1], w[2], w[3]));
        }
    }

    private static TenderHall onDayTwo() {
        TenderHall hall = Halls.sealed();
        hall.bid(1, 0, 0, 50, 50);
        hall.pass(2);
        return hall;
    }

    private static void addLot() {
        TenderHall hall = new TenderHall();
        hall.addTender(1, 0, 0, 0);
        hall.addTender(2, 0, 0, 0);
        Check.same("3 first", hall.addLot(0, 0), 0);
        Check.same("3 of the other", hall.addLot(1, 5), 0);
        Check.same("3 second", hall.addLot(0, 10000), 1);
        Check.same("3 third", hall.addLot(0, 5), 2);
        Check.fails("3 fourth", Check.STATE, () -> hall.addLot(0, 5));
        hall.bid(4, 0, 1, 5, 5);
        hall.bid(4, 1, 0, 5, 5);
        Check.same("3 deposits", hall.held(4), 10005);
        hall.pass(1);
        Check.same("3 day ahead of closing", hall.addLot(1, 5), 1);
        hall.pass(1);
        Check.fails("3 on the closing day", Check.STATE, () -> hall.addLot(1, 5));
    }

    private static void addLotWrong() {
        for (int tender : new int[] {-1, 1, 6, Integer.MIN_VALUE, Integer.MAX_VALUE}) {
            Check.failsUnchanged("3 no tender " + tender, Check.INDEX, Halls::sealed, h -> h.addLot(tender, -1));
        }
        for (int deposit : new int[] {-1, 10001, Integer.MIN_VALUE, Integer.MAX_VALUE}) {
            Check.failsUnchanged("3 deposit " + deposit, Check.ARGUMENT, Halls::sealed, h -> h.addLot(0, deposit));
            Check.failsUnchanged("3 deposit ahead of state", Check.ARGUMENT, Halls::opened, h -> h.addLot(0, deposit));
        }
        Check.failsUnchanged("3 opened", Check.STATE, Halls::opened, h -> h.addLot(0, 1));
    }

    private static void paper() {
        TenderHall hall = new TenderHall();
        Check.same("4 none before", hall.paper(0, 0, 2000), -1);
        Check.same("4 before", hall.paper(0, 0, 0), 2000);
        Check.same("4 other kind", hall.paper(0, 5, 7), -1);
        Check.same("4 other bidder", hall.paper(7, 5, 8), -1);
        Check.same("4 kept", hall.paper(0, 5, -1), 7);
        Check.same("4 none again", hall.paper(0, 5, 3), -1);
        Check.same("4 last", hall.paper(7, 5, 8), 8);
        Check.same("4 neighbour", hall.paper(1, 0, 8), -1);
        int[][] nobody = {{-1, 0}, {8, 0}, {0, -1}, {0, 6}, {1, -1}, {-1, 6}, {Integer.MAX_VALUE, 0},
            {0, Integer.MIN_VALUE}, {7, 6}};
        for (int[] w : nobody) {
            Check.failsUnchanged("4 no bidder or kind", Check.INDEX, Halls::sealed, h -> h.paper(w[0], w[1], -2));
        }
        for (int until : new int[] {-2, 2001, Integer.MIN_VALUE, Integer.MAX_VALUE}) {
            Check.failsUnchanged("4 until " + until, Check.ARGUMENT, Halls::sealed, h -> h.paper(0, 0, until));
        }
    }

    private static void paperDecides() {
        TenderHall hall = new TenderHall();
        hall.addTender(4, 33, 50, 4);
        hall.addLot(0, 9);
        for (int b = 0; b < 6; b++) {
            hall.bid(b, 0, 0, 100, 50);
            hall.paper(b, 0, 10);
            hall.paper(b, 5, 10);
        }
        hall.paper(1, 5, 3);
        hall.paper(2, 5, 4);
        hall.paper(3, 0, -1);
        hall.paper(4, 3, -1);
        hall.paper(5, 0, 3);
        hall.pass(3);
        hall.paper(5, 0, 4);
        hall.pass(1);
        boolean[] due = {true, false, true, false, true, true};
        for (int b = 0; b < 6; b++) {
            Check.same("4 in by papers, bidder " + b, hall.isIn(b, 0, 0), due[b]);
            Check.same("4 deposit by papers, bidder " + b, hall.held(b), due[b] ? 9 : 0);
        }
        hall.paper(1, 5, 2000);
        hall.paper(0, 0, -1);
        hall.pass(1);
        Check.same("4 later papers let nobody in", hall.isIn(1, 0, 0), false);
        Check.isTrue("4 and put nobody out", hall.isIn(0, 0, 0));
    }

    private static void bid() {
        TenderHall hall = Halls.sealed();
        hall.addLot(0, 30);
        Check.same("5 first", hall.bid(7, 0, 0, 1, 0), 1);
        Check.same("5 second", hall.bid(0, 0, 0, 100000, 100), 2);
        Check.same("5 anew", hall.bid(7, 0, 0, 70, 60), 2);
        Check.same("5 other lot", hall.bid(7, 0, 1, 5, 5), 1);
        Check.same("5 held for both", hall.held(7), 130);
        hall.pass(2);
        Check.same("5 day ahead of closing", hall.bid(1, 0, 0, 70, 60), 3);
        hall.pass(1);
        Check.same("5 the later one counts", hall.score(7, 0, 0), 80000);
        Check.fails("5 opened", Check.STATE, () -> hall.bid(2, 0, 0, 5, 5));
        Check.fails("5 opened, anew", Check.STATE, () -> hall.bid(7, 0, 0, 5, 5));
        Check.same("5 as it was", hall.score(7, 0, 0), 80000);
    }

    private static void bidWrong() {
        int[][] nobody = {{-1, 0, 0}, {8, 0, 0}, {0, -1, 0}, {0, 1, 0}, {0, 0, -1}, {0, 0, 1},
            {0, 0, 3}, {0, Integer.MAX_VALUE, 0}, {Integer.MIN_VALUE, 0, 0}};
        for (int[] w : nobody) {
            Check.failsUnchanged("5 no such one", Check.INDEX, Halls::sealed, h -> h.bid(w[0], w[1], w[2], 0, 0));
            Check.failsUnchanged("5 no such one, opened", Check.INDEX, Halls::opened,
                    h -> h.bid(w[0], w[1], w[2], 5, 5));
        }
        int[][] wrong = {{0, 0}, {-1, 5}, {100001, 5}, {5, -1}, {5, 101}, {Integer.MAX_VALUE, 5}, {5, Integer.MIN_VALUE}};
        for (int[] w : wrong) {
            Check.failsUnchanged("5 out of range", Check.ARGUMENT, Halls::sealed, h -> h.bid(0, 0, 0, w[0], w[1]));
            Check.failsUnchanged("5 argument first", Check.ARGUMENT, Halls::opened, h -> h.bid(0, 0, 0, w[0], w[1]));
        }
        Check.failsUnchanged("5 opened", Check.STATE, Halls::opened, h -> h.bid(4, 0, 0, 5, 5));
    }

    private static void withdraw() {
        TenderHall hall = Halls.sealed();
        hall.bid(0, 0, 0, 70, 60);
        hall.bid(1, 0, 0, 71, 60);
        hall.bid(0, 0, 0, 72, 60);
        Check.same("6 price", hall.withdraw(0, 0, 0), 72);
        Check.same("6 deposit is not held", hall.held(0), 0);
        Check.fails("6 twice", Check.STATE, () -> hall.withdraw(0, 0, 0));
        Check.fails("6 never made", Check.STATE, () -> hall.withdraw(5, 0, 0));
        Check.same("6 counts no more", hall.bid(2, 0, 0, 5, 5), 2);
        hall.pass(2);
        Check.same("6 day ahead of closing", hall.withdraw(2, 0, 0), 5);
        hall.pass(1);
        Check.fails("6 opened", Check.STATE, () -> hall.withdraw(1, 0, 0));
        Check.same("6 one is in", hall.ranked(0, 0, 0), 1);
        Check.same("6 one alone", hall.ranked(0, 0, 1), NONE);
        Check.same("6 taken back", hall.isIn(2, 0, 0), false);
        Check.failsUnchanged("6 opened, unchanged", Check.STATE, Halls::opened, h -> h.withdraw(1, 0, 0));
        Check.failsUnchanged("6 no bid, unchanged", Check.STATE, Halls::sealed, h -> h.withdraw(1, 0, 0));
        noSuchOnes("6", (h, w) -> h.withdraw(w[0], w[1], w[2]));
    }

    private static void noSuchOnes(String promise, java.util.function.BiConsumer<TenderHall, int[]> call) {
        int[][] nobody = {{-1, 0, 0}, {8, 0, 0}, {0, -1, 0}, {0, 1, 0}, {0, 0, -1}, {0, 0, 1}, {0, 6, 0}, {0, 0, 3},
            {Integer.MAX_VALUE, 0, 0}, {0, Integer.MIN_VALUE, 0}, {0, 0, Integer.MAX_VALUE}};
        for (int[] w : nobody) {
            String what = promise + " no such one " + java.util.Arrays.toString(w);
            Check.failsUnchanged(what, Check.INDEX, Halls::sealed, h -> call.accept(h, w));
            Check.failsUnchanged(what + ", opened", Check.INDEX, Halls::opened, h -> call.accept(h, w));
        }
    }

    private static void pass() {
        for (int days : new int[] {0, -1, 101, Integer.MIN_VALUE, Integer.MAX_VALUE}) {
            Check.failsUnchanged("7 days " + days, Check.ARGUMENT, Halls::awarded, h -> h.pass(days));
        }
        TenderHall hall = Halls.awarded();
        Check.same("7 one day ahead of the lapse", hall.pass(33), 0);
        Check.same("7 the lapse", hall.pass(1), 1);
        Check.same("7 awarded anew", hall.winner(hall.awardOf(0, 0)), 1);
        Check.same("7 two more lapse", hall.pass(68), 2);
        Check.same("7 no bid is left", hall.awardOf(0, 0), NONE);
        TenderHall old = new TenderHall();
        for (int i = 0; i < 19; i++) {
            Check.same("7 nothing lapses", old.pass(100), 0);
        }
        Check.same("7 on day 1999", old.pass(99), 0);
        Check.fails("7 above 2000", Check.STATE, () -> old.pass(2));
        Check.fails("7 range ahead of state", Check.ARGUMENT, () -> old.pass(101));
        Check.same("7 unchanged", old.today(), 1999);
        Check.same("7 to day 2000", old.pass(1), 0);
        Check.fails("7 behind 2000", Check.STATE, () -> old.pass(1));
        Check.same("7 still 2000", old.today(), 2000);
        Check.fails("2 no tender behind day 1000", Check.ARGUMENT, () -> old.addTender(1000, 0, 0, 0));
    }

    private static void today() {
        TenderHall hall = new TenderHall();
        hall.pass(1);
        Check.same("8 one", hall.today(), 1);
        hall.pass(100);
        Check.same("8 added", hall.today(), 101);
        Check.same("8 asked twice", hall.today(), 101);
    }

    private static void isIn() {
        TenderHall hall = Halls.sealed();
        hall.bid(0, 0, 0, 5, 5);
        Check.same("9 sealed", hall.isIn(0, 0, 0), false);
        hall.pass(2);
        Check.same("9 sealed until the day", hall.isIn(0, 0, 0), false);
        hall.pass(1);
        Check.isTrue("9 opened", hall.isIn(0, 0, 0));
        Check.same("9 without a bid", hall.isIn(1, 0, 0), false);
        TenderHall out = Halls.complained();
        out.complain(2, 0, TenderHall.PAPERS);
        out.rule(1, true, 0);
        Check.same("9 out for good", out.isIn(0, 0, 0), false);
        Check.same("9 out for papers", out.isIn(3, 0, 0), false);
        noSuchOnes("9", (h, w) -> h.isIn(w[0], w[1], w[2]));
    }

    private static void score() {
        TenderHall hall = Halls.sealed();
        hall.bid(0, 0, 0, 400, 30);
        hall.bid(1, 0, 0, 500, 100);
        Check.same("10 sealed", hall.score(0, 0, 0), NONE);
        hall.pass(3);
        Check.same("10 the least price", hall.score(0, 0, 0), 50000 + 15000);
        Check.same("10 a higher price", hall.score(1, 0, 0), 40000 + 50000);
        Check.same("10 without a bid", hall.score(2, 0, 0), NONE);
        TenderHall out = Halls.awarded();
        Check.same("10 out", out.score(3, 0, 0), NONE);
        Check.same("10 prices that are out do not count", out.score(0, 0, 0), 50000 + 45000);
        out.complain(2, 0, TenderHall.PAPERS);
        out.rule(0, true, 0);
        Check.same("10 the least price that is left", out.score(1, 0, 0), 50000 + 40000);
        Check.same("10 out for good", out.score(0, 0, 0), NONE);
        noSuchOnes("10", (h, w) -> h.score(w[0], w[1], w[2]));
    }

    private static void scoreRounds() {
        for (int weight : new int[] {0, 1, 33, 99, 100}) {
            TenderHall hall = new TenderHall();
            hall.addTender(1, 0, weight, 0);
            hall.addLot(0, 0);
            hall.bid(0, 0, 0, 1, 0);
            hall.bid(1, 0, 0, 3, 77);
            hall.bid(2, 0, 0, 100000, 100);
            hall.pass(1);
            Check.same("10 rounded down by itself", hall.score(1, 0, 0), 333 * weight + 770 * (100 - weight));
            Check.same("10 nothing is left of a high price", hall.score(2, 0, 0), 1000 * (100 - weight));
            Check.same("10 the least price", hall.score(0, 0, 0), 1000 * weight);
        }
    }

    private static void ranked() {
        TenderHall hall = Halls.opened();
        Check.same("11 best", hall.ranked(0, 0, 0), 0);
        Check.same("11 second", hall.ranked(0, 0, 1), 1);
        Check.same("11 third", hall.ranked(0, 0, 2), 2);
        Check.same("11 not so many", hall.ranked(0, 0, 3), NONE);
        Check.same("11 far behind", hall.ranked(0, 0, Integer.MAX_VALUE), NONE);
        TenderHall sealed = Halls.sealed();
        sealed.bid(0, 0, 0, 5, 5);
        Check.same("11 sealed", sealed.ranked(0, 0, 0), NONE);
        for (int place : new int[] {-1, Integer.MIN_VALUE}) {
            Check.failsUnchanged("11 place", Check.ARGUMENT, Halls::opened, h -> h.ranked(0, 0, place));
            Check.failsUnchanged("11 place, sealed", Check.ARGUMENT, Halls::sealed, h -> h.ranked(0, 0, place));
        }
        for (int[] w : new int[][] {{-1, 0}, {1, 0}, {0, -1}, {0, 1}, {6, 0}, {0, 3}}) {
            Check.failsUnchanged("11 no such one", Check.INDEX, Halls::opened, h -> h.ranked(w[0], w[1], -1));
        }
    }

    private static void rankedTies() {
        TenderHall hall = new TenderHall();
        hall.addTender(1, 0, 0, 0);
        hall.addTender(1, 0, 100, 0);
        hall.addLot(0, 0);
        hall.addLot(1, 0);
        hall.bid(5, 0, 0, 200, 50);
        hall.bid(4, 0, 0, 100, 50);
        hall.bid(3, 0, 0, 200, 50);
        hall.bid(2, 0, 0, 300, 51);
        hall.bid(1, 0, 0, 200, 50);
        hall.bid(0, 0, 0, 200, 50);
        hall.bid(5, 0, 0, 200, 50);
        hall.bid(3, 0, 0, 200, 40);
        hall.bid(3, 0, 0, 200, 50);
        hall.withdraw(1, 0, 0);
        hall.bid(1, 0, 0, 200, 50);
        hall.bid(0, 1, 0, 99999, 0);
        hall.bid(1, 1, 0, 99998, 0);
        hall.bid(2, 1, 0, 1, 0);
        hall.pass(1);
        int[] due = {2, 4, 0, 5, 3, 1, NONE};
        for (int place = 0; place < due.length; place++) {
            Check.same("11 ties, place " + place, hall.ranked(0, 0, place), due[place]);
        }
        Check.same("11 same rounded score", hall.score(0, 1, 0), hall.score(1, 1, 0));
        Check.same("11 the lower price", hall.ranked(1, 0, 1), 1);
        Check.same("11 the higher price", hall.ranked(1, 0, 2), 0);
    }
}
