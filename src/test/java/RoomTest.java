import com.sun.management.ThreadMXBean;
import java.lang.management.ManagementFactory;

/** LANGUAGE.md, rule 12: what a run of calls makes stays small, whatever call it is made of. */
final class RoomTest {
    private static final int CALLS = 450;
    /** A small part of the room for one run: 7.3 million fields and elements. */
    private static final long MOST_BYTES = 1_000_000;
    private static final String[] NAMES = {"winnerAnew", "line", "lineChar", "bid", "pass", "ranked"};

    private RoomTest() {
    }

    static void run() {
        for (String name : NAMES) {
            long made = bytesMadeBy(name);
            Check.isTrue("rule 12: bytes made by " + name + ": " + made, made <= MOST_BYTES);
        }
    }

    private static long bytesMadeBy(String name) {
        TenderHall hall = fullLot();
        ThreadMXBean bean = (ThreadMXBean) ManagementFactory.getThreadMXBean();
        long self = Thread.currentThread().getId();
        long before = bean.getThreadAllocatedBytes(self);
        for (int i = 0; i < CALLS; i++) {
            callOnce(hall, name, i);
        }
        return bean.getThreadAllocatedBytes(self) - before;
    }

    /** Eight bids and twenty rulings on one lot, and a tender that is still sealed. */
    private static TenderHall fullLot() {
        TenderHall hall = Halls.row(8, 30);
        for (int i = 0; i < 20; i++) {
            hall.rule(hall.complain(1, i, TenderHall.QUALITY), true, 90);
        }
        hall.addTender(1000, 0, 0, 0);
        hall.addLot(1, 0);
        return hall;
    }

    private static void callOnce(TenderHall hall, String name, int turn) {
        switch (name) {
            case "winnerAnew" -> hall.winnerAnew(0, 0);
            case "line" -> hall.line(20);
            case "lineChar" -> hall.lineChar(20, 10);
            case "bid" -> hall.bid(turn % 8, 1, 0, 5, 5);
            case "pass" -> hall.pass(1);
            default -> hall.ranked(0, 0, 7);
        }
    }
}
