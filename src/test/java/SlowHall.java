import java.util.ArrayList;
import java.util.Comparator;
import java.util.HashMap;
import java.util.List;
import java.util.Map;

/**
 * The document once more, told the slow way: it keeps only what happened, and finds each answer
 * from the whole story. ModelTest holds TenderHall against it, so it shares no code with it.
 */
public final class SlowHall {
    record Tender(int closing, int papers, int weight, int standing, List<Lot> lots) { }

    record Lot(Tender tender, int t, int l, int deposit, Map<Integer, Offer> offers, List<Happening> story) { }

    record Offer(int bidder, int price, int quality, int made, boolean[] lacked) { }

    record Happening(String what, int bidder, int quality) { }

    static final class Award {
        Lot lot;
        int bidder;
        int since;
        String end = "";
        int contract = -1;
    }

    static final class Complaint {
        int bidder;
        int award;
        int ground;
        int state;
        int appeals;
        int dismissed;
    }

    static final class Contract {
        int award;
        int called;
    }

    int now;
    int clock;
    final Map<Integer, Integer> papers = new HashMap<>();
    final List<Tender> tenders = new ArrayList<>();
    final List<Award> awards = new ArrayList<>();
    final List<Complaint> complaints = new ArrayList<>();
    final List<Contract> contracts = new ArrayList<>();

    private static void index(boolean good) {
        if (!good) {
            throw new IndexOutOfBoundsException();
        }
    }

    private static void argument(boolean good) {
        if (!good) {
            throw new IllegalArgumentException();
        }
    }

    private static void state(boolean good) {
        if (!good) {
            throw new IllegalStateException();
        }
    }

    private static boolean in(int value, int from, int to) {
        return from <= value && value <= to;
    }

    private Lot lot(int tender, int lot) {
        index(in(tender, 0, tenders.size() - 1));
        index(in(lot, 0, tenders.get(tender).lots.size() - 1));
        return tenders.get(tender).lots.get(lot);
    }

    private boolean open(Tender tender) {
        return now >= tender.closing;
    }

    public int addTender(int closing, int papers, int weight, int standing) {
        argument(in(closing, Math.max(1, now + 1), 1000) && in(papers, 0, 63) && in(weight, 0, 100)
                && in(standing, 0, 30));
        state(tenders.size() < 6);
        tenders.add(new Tender(closing, papers, weight, standing, new ArrayList<>()));
        return tenders.size() - 1;
    }

    public int addLot(int tender, int deposit) {
        index(in(tender, 0, tenders.size() - 1));
        argument(in(deposit, 0, 10000));
        Tender t = tenders.get(tender);
        state(t.lots.size() < 3 && !open(t));
        t.lots.add(new Lot(t, tender, t.lots.size(), deposit, new HashMap<>(), new ArrayList<>()));
        return t.lots.size() - 1;
    }

    public int paper(int bidder, int kind, int until) {
        index(in(bidder, 0, 7) && in(kind, 0, 5));
        argument(in(until, -1, 2000));
        Integer before = papers.put(bidder * 100 + kind, until);
        return before == null ? -1 : before;
    }

    public int bid(int bidder, int tender, int lot, int price, int quality) {
        index(in(bidder, 0, 7));
        Lot wanted = lot(tender, lot);
        argument(in(price, 1, 100000) && in(quality, 0, 100));
        state(!open(wanted.tender));
        wanted.offers.put(bidder, new Offer(bidder, price, quality, clock++, new boolean[1]));
        return wanted.offers.size();
    }

    public int withdraw(int bidder, int tender, int lot) {
        index(in(bidder, 0, 7));
        Lot wanted = lot(tender, lot);
        state(!open(wanted.tender) && wanted.offers.containsKey(bidder));
        return wanted.offers.remove(bidder).price;
    }

    public int pass(int days) {
        argument(in(days, 1, 100));
        state(now + days <= 2000);
        int lapses = 0;
        for (int i = 0; i < days; i++) {
            now++;
            for (Tender t : tenders) {
                if (t.closing == now) {
                    t.lots.forEach(l -> l.offers.values().forEach(o -> o.lacked[0] = lacks(o.bidder, t.papers)));
                }
            }
            for (Award a : List.copyOf(awards)) {
                if (awards.size() < 60 && isFinal(awards.indexOf(a)) && a.contract < 0
                        && now >= a.since + a.lot.tender.standing + 30) {
                    lapses++;
                    a.end = "lapsed";
                    a.lot.story.add(new Happening("out", a.bidder, 0));
                    awardAnew(a.lot);
                }
            }
        }
        return lapses;
    }

    private boolean lacks(int bidder, int needed) {
        boolean lacks = false;
        for (int kind = 0; kind < 6; kind++) {
            boolean has = papers.getOrDefault(bidder * 100 + kind, -1) >= now;
            lacks |= (needed & 1 << kind) != 0 && !has;
        }
        return lacks;
    }

    public int today() {
        return now;
    }

    /** "sealed", "none", "lacking", "out" or "in". */
    private String standing(Lot lot, int bidder) {
        Offer offer = lot.offers.get(bidder);
        if (offer == null) {
            return "none";
        }
        if (!open(lot.tender)) {
            return "sealed";
        }
        String is = offer.lacked[0] ? "lacking" : "in";
        for (Happening h : lot.story) {
            if (h.bidder == bidder && !h.what.equals("quality")) {
                is = h.what;
            }
        }
        return is;
    }

    private int quality(Lot lot, int bidder) {
        int quality = lot.offers.get(bidder).quality;
        for (Happening h : lot.story) {
            if (h.bidder == bidder && h.what.equals("quality")) {
                quality = h.quality;
            }
        }
        return quality;
    }

    private List<Offer> inside(Lot lot) {
        List<Offer> inside = new ArrayList<>(lot.offers.values());
        inside.removeIf(o -> !standing(lot, o.bidder).equals("in"));
        inside.sort(Comparator.comparingInt((Offer o) -> -points(lot, inside, o))
                .thenComparingInt(o -> o.price).thenComparingInt(o -> o.made));
        return inside;
    }

    private int points(Lot lot, List<Offer> inside, Offer offer) {
        int least = Integer.MAX_VALUE;
        for (Offer o : lot.offers.values()) {
            if (standing(lot, o.bidder).equals("in")) {
                least = Math.min(least, o.price);
            }
        }
        int share = (int) (least * 1000L / offer.price);
        int weight = lot.tender.weight;
        return share * weight + 10 * quality(lot, offer.bidder) * (100 - weight);
    }

    public boolean isIn(int bidder, int tender, int lot) {
        index(in(bidder, 0, 7));
        return standing(lot(tender, lot), bidder).equals("in");
    }

    public int score(int bidder, int tender, int lot) {
        index(in(bidder, 0, 7));
        Lot wanted = lot(tender, lot);
        return isIn(bidder, tender, lot) ? points(wanted, inside(wanted), wanted.offers.get(bidder)) : -1;
    }

    public int ranked(int tender, int lot, int place) {
        Lot wanted = lot(tender, lot);
        argument(place >= 0);
        List<Offer> inside = inside(wanted);
        return place < inside.size() ? inside.get(place).bidder : -1;
    }

    private int awardAnew(Lot lot) {
        List<Offer> inside = inside(lot);
        if (inside.isEmpty()) {
            return -1;
        }
        Award award = new Award();
        award.lot = lot;
        award.bidder = inside.get(0).bidder;
        award.since = now;
        awards.add(award);
        return awards.size() - 1;
    }

    public int award(int tender, int lot) {
        Lot wanted = lot(tender, lot);
        state(open(wanted.tender) && awardOf(tender, lot) == -1 && !inside(wanted).isEmpty() && awards.size() < 60);
        return awardAnew(wanted);
    }

    public int awardOf(int tender, int lot) {
        Lot wanted = lot(tender, lot);
        int found = -1;
        for (int i = 0; i < awards.size(); i++) {
            if (awards.get(i).lot == wanted && awards.get(i).end.isEmpty()) {
                found = i;
            }
        }
        return found;
    }

    private Award award(int award) {
        index(in(award, 0, awards.size() - 1));
        return awards.get(award);
    }

    public int winner(int award) {
        return award(award).bidder;
    }

    public boolean isVoid(int award) {
        return !award(award).end.isEmpty();
    }

    private int open(int award) {
        return (int) complaints.stream().filter(c -> c.award == award && c.state == 0).count();
    }

    public boolean isFinal(int award) {
        Award a = award(award);
        return a.end.isEmpty() && open(award) == 0 && now >= a.since + a.lot.tender.standing;
    }

    public int winnerAnew(int tender, int lot) {
        return ranked(tender, lot, 0);
    }

    private String text(int award) {
        Award a = award(award);
        String sign = isVoid(award) ? "V" : a.contract >= 0 ? "S" : isFinal(award) ? "F" : "";
        return "#" + award + " T" + a.lot.t + "L" + a.lot.l + " B" + a.bidder + sign;
    }

    public int line(int award) {
        return text(award).length();
    }

    public char lineChar(int award, int place) {
        String text = text(award);
        index(in(place, 0, text.length() - 1));
        return text.charAt(place);
    }

    public int complain(int bidder, int award, int ground) {
        index(in(bidder, 0, 7));
        Award a = award(award);
        argument(in(ground, 0, 2));
        String own = standing(a.lot, bidder);
        state(!isVoid(award) && now < a.since + a.lot.tender.standing);
        state(!own.equals("none") && a.bidder != bidder);
        state(complaints.stream().noneMatch(c -> c.award == award && c.bidder == bidder));
        state(ground != 2 || own.equals("lacking"));
        state(complaints.size() < 60);
        Complaint c = new Complaint();
        c.bidder = bidder;
        c.award = award;
        c.ground = ground;
        complaints.add(c);
        return complaints.size() - 1;
    }

    private Complaint complaint(int complaint) {
        index(in(complaint, 0, complaints.size() - 1));
        return complaints.get(complaint);
    }

    public int rule(int complaint, boolean isUpheld, int quality) {
        Complaint c = complaint(complaint);
        argument(in(quality, 0, 100));
        state(c.state == 0 && !(isUpheld && awards.size() == 60));
        if (!isUpheld) {
            c.state = 2;
            c.dismissed = now;
            return -1;
        }
        complaints.stream().filter(o -> o.award == c.award && o.state == 0).forEach(o -> o.state = 3);
        c.state = 1;
        Award a = awards.get(c.award);
        a.end = "ruled";
        a.lot.story.add(switch (c.ground) {
            case 0 -> new Happening("out", a.bidder, 0);
            case 1 -> new Happening("quality", a.bidder, quality);
            default -> new Happening("in", c.bidder, 0);
        });
        return awardAnew(a.lot);
    }

    public int appeal(int complaint) {
        Complaint c = complaint(complaint);
        state(c.state == 2 && c.appeals == 0 && now <= c.dismissed + 10 && !isVoid(c.award));
        c.appeals++;
        c.state = 0;
        return open(c.award);
    }

    public int stateOf(int complaint) {
        return complaint(complaint).state;
    }

    public int sign(int award) {
        state(isFinal(award) && awards.get(award).contract < 0);
        Contract contract = new Contract();
        contract.award = award;
        awards.get(award).contract = contracts.size();
        contracts.add(contract);
        return contracts.size() - 1;
    }

    private Contract contract(int contract) {
        index(in(contract, 0, contracts.size() - 1));
        return contracts.get(contract);
    }

    public int call(int contract, int sum) {
        Contract c = contract(contract);
        argument(in(sum, 1, 100000));
        Award a = awards.get(c.award);
        state(running(contract) == 2 && c.called + sum <= a.lot.offers.get(a.bidder).price);
        return c.called += sum;
    }

    public int running(int contract) {
        Contract c = contract(contract);
        return isVoid(c.award) ? 0 : open(c.award) > 0 ? 1 : 2;
    }

    public int owes(int bidder) {
        index(in(bidder, 0, 7));
        return contracts.stream().filter(c -> isVoid(c.award) && winner(c.award) == bidder)
                .mapToInt(c -> c.called).sum();
    }

    public int held(int bidder) {
        index(in(bidder, 0, 7));
        int held = 0;
        for (Tender t : tenders) {
            for (Lot lot : t.lots) {
                String own = standing(lot, bidder);
                boolean contracted = contracts.stream()
                        .anyMatch(c -> awards.get(c.award).lot == lot && !isVoid(c.award));
                held += (own.equals("sealed") || own.equals("in")) && !contracted ? lot.deposit : 0;
            }
        }
        return held;
    }

    public int lost(int bidder) {
        index(in(bidder, 0, 7));
        return awards.stream().filter(a -> a.end.equals("lapsed") && a.bidder == bidder)
                .mapToInt(a -> a.lot.deposit).sum();
    }
}
