import java.lang.reflect.InvocationTargetException;
import java.lang.reflect.Method;
import java.util.HashMap;
import java.util.Map;
import java.util.TreeMap;

/** Long runs of calls, the same each time, on TenderHall and SlowHall side by side. */
final class ModelTest {
    private static final int CALLS = 512;
    private static final int RUNS = 600;

    private final Map<String, Method> fast = methodsOf(TenderHall.class);
    private final Map<String, Method> slow = methodsOf(SlowHall.class);
    private final TreeMap<String, Integer> seen = new TreeMap<>();
    private TenderHall hall;
    private SlowHall model;
    private int left;
    private long seed;
    private boolean differs;
    private final StringBuilder history = new StringBuilder();

    private ModelTest() {
    }

    static void run() throws ReflectiveOperationException {
        ModelTest test = new ModelTest();
        for (int run = 0; run < RUNS; run++) {
            test.oneRun(run);
        }
        test.checkThatMuchWasSeen();
    }

    private static Map<String, Method> methodsOf(Class<?> type) {
        Map<String, Method> methods = new HashMap<>();
        for (Method method : type.getDeclaredMethods()) {
            if (java.lang.reflect.Modifier.isPublic(method.getModifiers())) {
                methods.put(method.getName(), method);
            }
        }
        return methods;
    }

    private void oneRun(int run) throws ReflectiveOperationException {
        hall = new TenderHall();
        model = new SlowHall();
        left = CALLS;
        seed = run * 7919L + 17;
        differs = false;
        history.setLength(0);
        prepare(run % 5);
        while (left > 0 && !differs) {
            step(run % 5);
        }
        Check.same("run " + run, differs, false);
    }

    /** The low bits of this little row of numbers repeat too soon, so the high ones are taken. */
    private int below(int bound) {
        seed = seed * 6364136223846793005L + 1442695040888963407L;
        return (int) ((seed >>> 33) % bound);
    }

    private void both(String name, Object... arguments) throws ReflectiveOperationException {
        if (left <= 0 || differs) {
            return;
        }
        left--;
        String got = outcome(fast.get(name), hall, arguments);
        String due = outcome(slow.get(name), model, arguments);
        history.append(name).append(java.util.Arrays.toString(arguments)).append(" = ").append(due).append('\n');
        seen.merge(name + (due.startsWith("throws") ? " " + due : " answers"), 1, Integer::sum);
        if (!got.equals(due)) {
            differs = true;
            System.out.println(history + "but was " + got);
        }
    }

    private String outcome(Method method, Object target, Object[] arguments)
            throws ReflectiveOperationException {
        try {
            return String.valueOf(method.invoke(target, arguments));
        } catch (InvocationTargetException e) {
            return target == hall ? Check.told(e.getCause()) : "throws " + e.getCause().getClass().getSimpleName();
        }
    }

    /** Tenders that close soon, and many bids, so that awards come early in a run. */
    private void prepare(int kind) throws ReflectiveOperationException {
        int tenders = kind == 1 ? 6 : 1 + below(3);
        for (int t = 0; t < tenders; t++) {
            int weight = new int[] {0, 100, 50, below(101)}[below(4)];
            int standing = kind == 1 ? below(3) : new int[] {30, 5, below(31), 10}[below(4)];
            both("addTender", 2 + below(5), below(3) == 0 ? 1 << below(6) : 0, weight, standing);
            int lots = kind == 1 ? 3 : 1 + below(3);
            for (int l = 0; l < lots; l++) {
                both("addLot", t, 1 + below(50));
            }
        }
        for (int b = 0; b < 8; b++) {
            for (int k = 0; k < 6; k++) {
                if (below(4) > 0 && kind != 1) {
                    both("paper", b, k, below(12));
                }
            }
        }
        int bids = kind == 1 ? 110 : 10 + below(60);
        for (int i = 0; i < bids; i++) {
            int t = below(tenders);
            both("bid", below(8), t, below(3), 1 + below(below(2) == 0 ? 5 : 2000), below(2) == 0 ? 50 : below(101));
            if (below(12) == 0) {
                both("withdraw", below(8), t, below(3));
            }
            if (below(40) == 0) {
                both("pass", 1);
            }
        }
    }

    private void step(int kind) throws ReflectiveOperationException {
        int dice = below(100);
        if (dice < 8) {
            both("pass", days(kind));
        } else if (dice < 16) {
            both("award", number(model.tenders.size()), number(3));
        } else if (dice < 34) {
            both("complain", below(8), standing(), below(30) == 0 ? number(3) : below(3));
        } else if (dice < 46) {
            both("rule", complaint(TenderHall.OPEN), below(2) > 0, below(20) == 0 ? number(101) : below(101));
        } else if (dice < 52) {
            both("appeal", complaint(TenderHall.DISMISSED));
        } else if (dice < 56) {
            both("sign", standing());
        } else if (dice < 60) {
            both("call", number(model.contracts.size()), below(10) == 0 ? number(100000) : 1 + below(200));
        } else if (dice < 63) {
            tenderOrBid();
        } else {
            ask();
        }
    }

    /** Few days where complaints are the matter, many where awards are to lapse or the days to end. */
    private int days(int kind) {
        if (below(20) == 0) {
            return number(101);
        }
        int most = switch (kind) {
            case 1 -> 34;
            case 2 -> 1;
            case 3 -> 12;
            case 4 -> 100;
            default -> below(6) == 0 ? 40 : 3;
        };
        return 1 + below(most);
    }

    private void tenderOrBid() throws ReflectiveOperationException {
        int t = number(model.tenders.size());
        switch (below(5)) {
            case 0 -> both("addTender", model.now + below(8), number(64), number(101), number(31));
            case 1 -> both("addLot", t, number(10001));
            case 2 -> both("paper", number(8), number(6), model.now + below(9) - 3);
            case 3 -> both("withdraw", number(8), t, number(3));
            default -> both("bid", number(8), t, number(3), below(12), below(102));
        }
    }

    private void ask() throws ReflectiveOperationException {
        int t = number(model.tenders.size());
        switch (below(16)) {
            case 0 -> both("today");
            case 1 -> both("isIn", number(8), t, number(3));
            case 2 -> both("score", number(8), t, number(3));
            case 3, 4 -> both("ranked", t, number(3), below(9) - 1);
            case 5 -> both("awardOf", t, number(3));
            case 6 -> both("winner", late(model.awards.size()));
            case 7 -> both("isVoid", late(model.awards.size()));
            case 8 -> both("isFinal", late(model.awards.size()));
            case 9 -> both("winnerAnew", t, number(3));
            case 10 -> both("line", late(model.awards.size()));
            case 11 -> both("lineChar", late(model.awards.size()), number(12));
            case 12 -> both("stateOf", late(model.complaints.size()));
            case 13 -> both("running", number(model.contracts.size()));
            case 14 -> both("held", number(8));
            default -> both(below(2) == 0 ? "owes" : "lost", number(8));
        }
    }

    /** Mostly one of so many numbers, now and then one just outside or far away. */
    private int number(int count) {
        int dice = below(60);
        if (dice == 0) {
            return new int[] {Integer.MIN_VALUE, Integer.MAX_VALUE, -1, count, count + 1}[below(5)];
        }
        return count > 0 ? below(count) : -below(2);
    }

    /** The same, mostly one of the last few. */
    private int late(int count) {
        return count > 4 && below(4) > 0 ? count - 1 - below(4) : number(count);
    }

    /** Mostly an award that is not VOID. */
    private int standing() {
        int award = late(model.awards.size());
        for (int i = 0; i < 20 && below(20) > 0; i++) {
            if (award >= 0 && award < model.awards.size() && model.awards.get(award).end.isEmpty()) {
                break;
            }
            award = late(model.awards.size());
        }
        return award;
    }

    /** Mostly a complaint in this state. */
    private int complaint(int state) {
        int complaint = number(model.complaints.size());
        for (int i = 0; i < 20 && below(20) > 0; i++) {
            if (complaint >= 0 && complaint < model.complaints.size()
                    && model.complaints.get(complaint).state == state) {
                break;
            }
            complaint = number(model.complaints.size());
        }
        return complaint;
    }

    /** Runs that hardly reach a call would show nothing: each outcome must come up often enough. */
    private void checkThatMuchWasSeen() {
        String[] due = {"addTender answers", "addLot answers", "paper answers", "bid answers", "withdraw answers",
            "pass answers", "award answers", "complain answers", "rule answers", "appeal answers", "sign answers",
            "call answers", "complain throws IllegalStateException", "rule throws IllegalStateException",
            "appeal throws IllegalStateException", "sign throws IllegalStateException",
            "call throws IllegalStateException", "award throws IllegalStateException",
            "pass throws IllegalStateException", "winnerAnew answers", "lineChar throws IndexOutOfBoundsException",
            "ranked throws IllegalArgumentException", "owes answers", "lost answers", "held answers"};
        for (String outcome : due) {
            Check.isTrue("model runs saw too little of: " + outcome, seen.getOrDefault(outcome, 0) >= 50);
        }
        if (System.getProperty("seen") != null) {
            System.out.println(seen);
        }
    }
}
