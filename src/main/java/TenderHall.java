import java.util.ArrayList;

/** A board of public tenders with a hall of complaints; ../shared/DOC.md says what each call answers. */
public final class TenderHall {
    public static final int NONE = -1;
    public static final int PAPERS = 0, QUALITY = 1, EXCLUDED = 2;
    public static final int OPEN = 0, UPHELD = 1, DISMISSED = 2, MOOT = 3;

    private static final int BIDDERS = 8;
    private static final int KINDS = 6;
    private static final int MOST_TENDERS = 6;
    private static final int MOST_LOTS = 3;
    private static final int MOST_AWARDS = 60;
    private static final int MOST_COMPLAINTS = 60;
    private static final int LAST_CLOSING = 1000;
    private static final int LAST_DAY = 2000;
    private static final int MOST_DAYS_AT_ONCE = 100;
    private static final int ALL_PAPERS = 63;
    private static final int FULL_WEIGHT = 100;
    private static final int LONGEST_STANDING = 30;
    private static final int MOST_DEPOSIT = 10000;
    private static final int MOST_SUM = 100000;
    private static final int BEST_QUALITY = 100;
    private static final int DAYS_TO_SIGN = 30;
    private static final int DAYS_TO_APPEAL = 10;

    private final int[] paperUntil;
    private final ArrayList<Tender> tenders;
    private final ArrayList<Award> awards;
    private final ArrayList<Complaint> complaints;
    private final ArrayList<Contract> contracts;
    private int day;

    public TenderHall() {
        paperUntil = new int[BIDDERS * KINDS];
        for (int i = 0; i < paperUntil.length; i++) {
            paperUntil[i] = NONE;
        }
        tenders = new ArrayList<>();
        awards = new ArrayList<>();
        complaints = new ArrayList<>();
        contracts = new ArrayList<>();
        day = 0;
    }

    // ---- tenders and bids

    public int addTender(int closing, int papers, int weight, int standing)
            throws IllegalArgumentException, IllegalStateException {
        if (isOutside(closing, 1, LAST_CLOSING) || closing <= day || isOutside(papers, 0, ALL_PAPERS)
                || isOutside(weight, 0, FULL_WEIGHT) || isOutside(standing, 0, LONGEST_STANDING)) {
            throw new IllegalArgumentException();
        }
        int number = tenders.size();
        if (number >= MOST_TENDERS) {
            throw new IllegalStateException();
        }
        tenders.add(new Tender(number, closing, papers, weight, standing));
        return number;
    }

    public int addLot(int tender, int deposit)
            throws IndexOutOfBoundsException, IllegalArgumentException, IllegalStateException {
        Tender owner = tenderAt(tender);
        if (isOutside(deposit, 0, MOST_DEPOSIT)) {
            throw new IllegalArgumentException();
        }
        int number = owner.lots.size();
        if (number >= MOST_LOTS || isOpened(owner)) {
            throw new IllegalStateException();
        }
        owner.lots.add(new Lot(owner, number, deposit));
        return number;
    }

    public int paper(int bidder, int kind, int until)
            throws IndexOutOfBoundsException, IllegalArgumentException {
        int slot = paperSlot(bidder, kind);
        if (slot == NONE) {
            throw new IndexOutOfBoundsException();
        }
        if (isOutside(until, NONE, LAST_DAY)) {
            throw new IllegalArgumentException();
        }
        int before = paperUntil[slot];
        paperUntil[slot] = until;
        return before;
    }

    public int bid(int bidder, int tender, int lot, int price, int quality)
            throws IndexOutOfBoundsException, IllegalArgumentException, IllegalStateException {
        checkBidder(bidder);
        Lot wanted = lotAt(tender, lot);
        if (isOutside(price, 1, MOST_SUM) || isOutside(quality, 0, BEST_QUALITY)) {
            throw new IllegalArgumentException();
        }
        if (isOpened(wanted.tender)) {
            throw new IllegalStateException();
        }
        wanted.takeBack(bidder);
        wanted.bids.add(new Bid(bidder, price, quality));
        return wanted.bids.size();
    }

    public int withdraw(int bidder, int tender, int lot)
            throws IndexOutOfBoundsException, IllegalStateException {
        checkBidder(bidder);
        Lot wanted = lotAt(tender, lot);
        Bid made = wanted.bidOf(bidder);
        if (made == null || isOpened(wanted.tender)) {
            throw new IllegalStateException();
        }
        wanted.takeBack(bidder);
        return made.price;
    }

    public int pass(int days) throws IllegalArgumentException, IllegalStateException {
        if (isOutside(days, 1, MOST_DAYS_AT_ONCE)) {
            throw new IllegalArgumentException();
        }
        if (day + days > LAST_DAY) {
            throw new IllegalStateException();
        }
        int lapsed = 0;
        for (int i = 0; i < days; i++) {
            day++;
            openTenders();
            lapsed += lapseAwards();
        }
        return lapsed;
    }

    public int today() {
        return day;
    }

    public boolean isIn(int bidder, int tender, int lot) throws IndexOutOfBoundsException {
        checkBidder(bidder);
        Bid made = lotAt(tender, lot).bidOf(bidder);
        return made != null && made.status == Status.IN;
    }

    public int score(int bidder, int tender, int lot) throws IndexOutOfBoundsException {
        checkBidder(bidder);
        Lot wanted = lotAt(tender, lot);
        Bid made = wanted.bidOf(bidder);
        if (made == null || made.status != Status.IN) {
            return NONE;
        }
        return wanted.scoreOf(made);
    }

    public int ranked(int tender, int lot, int place)
            throws IndexOutOfBoundsException, IllegalArgumentException {
        Lot wanted = lotAt(tender, lot);
        if (place < 0) {
            throw new IllegalArgumentException();
        }
        return bidderOf(wanted.bidAtPlace(place));
    }

    // ---- awards

    public int award(int tender, int lot) throws IndexOutOfBoundsException, IllegalStateException {
        Lot wanted = lotAt(tender, lot);
        if (!isOpened(wanted.tender) || standingAward(wanted) != null
                || wanted.bidAtPlace(0) == null || awards.size() >= MOST_AWARDS) {
            throw new IllegalStateException();
        }
        return awardToBest(wanted);
    }

    public int awardOf(int tender, int lot) throws IndexOutOfBoundsException {
        Award standing = standingAward(lotAt(tender, lot));
        return standing == null ? NONE : standing.number;
    }

    public int winner(int award) throws IndexOutOfBoundsException {
        return awardAt(award).bid.bidder;
    }

    public boolean isVoid(int award) throws IndexOutOfBoundsException {
        return awardAt(award).voided;
    }

    public boolean isFinal(int award) throws IndexOutOfBoundsException {
        return hasBecomeFinal(awardAt(award));
    }

    public int winnerAnew(int tender, int lot) throws IndexOutOfBoundsException {
        Lot wanted = lotAt(tender, lot);
        if (!isOpened(wanted.tender)) {
            return NONE;
        }
        return bidderOf(wanted.followedAnew().bidAtPlace(0));
    }

    public int line(int award) throws IndexOutOfBoundsException {
        return lineOf(awardAt(award)).length();
    }

    public char lineChar(int award, int place) throws IndexOutOfBoundsException {
        StringBuilder text = lineOf(awardAt(award));
        if (place < 0 || place >= text.length()) {
            throw new IndexOutOfBoundsException();
        }
        return text.charAt(place);
    }

    // ---- complaints

    public int complain(int bidder, int award, int ground)
            throws IndexOutOfBoundsException, IllegalArgumentException, IllegalStateException {
        checkBidder(bidder);
        Award about = awardAt(award);
        if (isOutside(ground, PAPERS, EXCLUDED)) {
            throw new IllegalArgumentException();
        }
        int number = complaints.size();
        if (about.voided || day >= about.finalFrom || !mayComplain(bidder, about, ground)
                || number >= MOST_COMPLAINTS) {
            throw new IllegalStateException();
        }
        complaints.add(new Complaint(bidder, about, ground));
        return number;
    }

    public int rule(int complaint, boolean isUpheld, int quality)
            throws IndexOutOfBoundsException, IllegalArgumentException, IllegalStateException {
        Complaint ruled = complaintAt(complaint);
        if (isOutside(quality, 0, BEST_QUALITY)) {
            throw new IllegalArgumentException();
        }
        if (ruled.state != OPEN || isUpheld && awards.size() >= MOST_AWARDS) {
            throw new IllegalStateException();
        }
        if (isUpheld) {
            return uphold(ruled, quality);
        }
        ruled.state = DISMISSED;
        ruled.dismissedOn = day;
        return NONE;
    }

    public int appeal(int complaint) throws IndexOutOfBoundsException, IllegalStateException {
        Complaint appealed = complaintAt(complaint);
        if (appealed.state != DISMISSED || appealed.wasAppealed
                || day - appealed.dismissedOn > DAYS_TO_APPEAL || appealed.award.voided) {
            throw new IllegalStateException();
        }
        appealed.state = OPEN;
        appealed.wasAppealed = true;
        return openAbout(appealed.award);
    }

    public int stateOf(int complaint) throws IndexOutOfBoundsException {
        return complaintAt(complaint).state;
    }

    // ---- contracts and deposits

    public int sign(int award) throws IndexOutOfBoundsException, IllegalStateException {
        Award chosen = awardAt(award);
        if (!hasBecomeFinal(chosen) || chosen.signed) {
            throw new IllegalStateException();
        }
        chosen.signed = true;
        int number = contracts.size();
        contracts.add(new Contract(chosen));
        return number;
    }

    public int call(int contract, int sum)
            throws IndexOutOfBoundsException, IllegalArgumentException, IllegalStateException {
        Contract drawn = contractAt(contract);
        if (isOutside(sum, 1, MOST_SUM)) {
            throw new IllegalArgumentException();
        }
        if (drawn.award.voided || openAbout(drawn.award) > 0
                || drawn.called + sum > drawn.award.bid.price) {
            throw new IllegalStateException();
        }
        drawn.called += sum;
        return drawn.called;
    }

    public int running(int contract) throws IndexOutOfBoundsException {
        Contract asked = contractAt(contract);
        if (asked.award.voided) {
            return 0;
        }
        return openAbout(asked.award) > 0 ? 1 : 2;
    }

    public int owes(int bidder) throws IndexOutOfBoundsException {
        checkBidder(bidder);
        int sum = 0;
        for (int i = 0; i < contracts.size(); i++) {
            Contract one = contracts.get(i);
            if (one.award.voided && one.award.bid.bidder == bidder) {
                sum += one.called;
            }
        }
        return sum;
    }

    public int held(int bidder) throws IndexOutOfBoundsException {
        checkBidder(bidder);
        int sum = 0;
        for (int i = 0; i < tenders.size(); i++) {
            ArrayList<Lot> lots = tenders.get(i).lots;
            for (int k = 0; k < lots.size(); k++) {
                Lot lot = lots.get(k);
                if (holdsDeposit(lot, bidder)) {
                    sum += lot.deposit;
                }
            }
        }
        return sum;
    }

    public int lost(int bidder) throws IndexOutOfBoundsException {
        checkBidder(bidder);
        int sum = 0;
        for (int i = 0; i < awards.size(); i++) {
            Award one = awards.get(i);
            if (one.lapsed && one.bid.bidder == bidder) {
                sum += one.lot.deposit;
            }
        }
        return sum;
    }

    // ---- arguments

    private static boolean isOutside(int value, int least, int most) {
        return value < least || value > most;
    }

    private static void checkBidder(int bidder) {
        if (bidder < 0 || bidder >= BIDDERS) {
            throw new IndexOutOfBoundsException();
        }
    }

    private Tender tenderAt(int tender) {
        if (tender < 0 || tender >= tenders.size()) {
            throw new IndexOutOfBoundsException();
        }
        return tenders.get(tender);
    }

    private Lot lotAt(int tender, int lot) {
        ArrayList<Lot> lots = tenderAt(tender).lots;
        if (lot < 0 || lot >= lots.size()) {
            throw new IndexOutOfBoundsException();
        }
        return lots.get(lot);
    }

    private Award awardAt(int award) {
        if (award < 0 || award >= awards.size()) {
            throw new IndexOutOfBoundsException();
        }
        return awards.get(award);
    }

    private Complaint complaintAt(int complaint) {
        if (complaint < 0 || complaint >= complaints.size()) {
            throw new IndexOutOfBoundsException();
        }
        return complaints.get(complaint);
    }

    private Contract contractAt(int contract) {
        if (contract < 0 || contract >= contracts.size()) {
            throw new IndexOutOfBoundsException();
        }
        return contracts.get(contract);
    }

    // ---- days

    private boolean isOpened(Tender tender) {
        return day >= tender.closing;
    }

    private void openTenders() {
        for (int i = 0; i < tenders.size(); i++) {
            Tender tender = tenders.get(i);
            if (tender.closing == day) {
                openLots(tender);
            }
        }
    }

    private void openLots(Tender tender) {
        for (int i = 0; i < tender.lots.size(); i++) {
            ArrayList<Bid> bids = tender.lots.get(i).bids;
            for (int k = 0; k < bids.size(); k++) {
                Bid bid = bids.get(k);
                bid.open(hasPapers(bid.bidder, tender.papers));
            }
        }
    }

    private boolean hasPapers(int bidder, int needed) {
        for (int kind = 0; kind < KINDS; kind++) {
            int slot = paperSlot(bidder, kind);
            int until = slot == NONE ? NONE : paperUntil[slot];
            if ((needed >> kind & 1) == 1 && until < day) {
                return false;
            }
        }
        return true;
    }

    /** Where paperUntil keeps a paper; NONE if there is no such place. */
    private static int paperSlot(int bidder, int kind) {
        if (isOutside(bidder, 0, BIDDERS - 1) || isOutside(kind, 0, KINDS - 1)) {
            return NONE;
        }
        return bidder * KINDS + kind;
    }

    private int lapseAwards() {
        int lapsed = 0;
        // Awards that a lapse makes stand behind this end: the document leaves them for later days.
        int end = awards.size();
        for (int i = 0; i < end && awards.size() < MOST_AWARDS; i++) {
            Award one = awards.get(i);
            if (!one.signed && day >= one.finalFrom + DAYS_TO_SIGN && hasBecomeFinal(one)) {
                one.lapsed = true;
                sendBack(one, new Change(PAPERS, one.bid.bidder, 0));
                lapsed++;
            }
        }
        return lapsed;
    }

    // ---- awards and what ends them

    private static int bidderOf(Bid bid) {
        return bid == null ? NONE : bid.bidder;
    }

    /** The award of a lot that is not VOID; null if there is none. */
    private Award standingAward(Lot lot) {
        for (int i = 0; i < awards.size(); i++) {
            Award one = awards.get(i);
            if (one.lot == lot && !one.voided) {
                return one;
            }
        }
        return null;
    }

    private boolean hasBecomeFinal(Award award) {
        return !award.voided && day >= award.finalFrom && openAbout(award) == 0;
    }

    private int awardToBest(Lot lot) {
        Bid best = lot.bidAtPlace(0);
        if (best == null) {
            return NONE;
        }
        int number = awards.size();
        awards.add(new Award(number, lot, best, day + lot.tender.standing));
        return number;
    }

    /** Ends an award by what was ruled or has lapsed; returns the award that follows it, or NONE. */
    private int sendBack(Award award, Change change) {
        award.voided = true;
        award.lot.changes.add(change);
        award.lot.follow(change);
        return awardToBest(award.lot);
    }

    private StringBuilder lineOf(Award award) {
        StringBuilder text = new StringBuilder();
        text.append('#').append(award.number);
        text.append(' ').append('T').append(award.lot.tender.number);
        text.append('L').append(award.lot.number);
        text.append(' ').append('B').append(award.bid.bidder);
        if (award.voided) {
            text.append('V');
        } else if (award.signed) {
            text.append('S');
        } else if (hasBecomeFinal(award)) {
            text.append('F');
        }
        return text;
    }

    // ---- complaints and deposits

    private int openAbout(Award award) {
        int count = 0;
        for (int i = 0; i < complaints.size(); i++) {
            Complaint one = complaints.get(i);
            if (one.award == award && one.state == OPEN) {
                count++;
            }
        }
        return count;
    }

    private boolean mayComplain(int bidder, Award award, int ground) {
        Bid own = award.lot.bidOf(bidder);
        if (own == null || award.bid.bidder == bidder || hasComplained(bidder, award)) {
            return false;
        }
        return ground != EXCLUDED || own.status == Status.LACKS_PAPERS;
    }

    private boolean hasComplained(int bidder, Award award) {
        for (int i = 0; i < complaints.size(); i++) {
            Complaint one = complaints.get(i);
            if (one.award == award && one.bidder == bidder) {
                return true;
            }
        }
        return false;
    }

    private int uphold(Complaint upheld, int quality) {
        Award award = upheld.award;
        upheld.state = UPHELD;
        for (int i = 0; i < complaints.size(); i++) {
            Complaint one = complaints.get(i);
            if (one.award == award && one.state == OPEN) {
                one.state = MOOT;
            }
        }
        int touched = upheld.ground == EXCLUDED ? upheld.bidder : award.bid.bidder;
        return sendBack(award, new Change(upheld.ground, touched, quality));
    }

    private boolean holdsDeposit(Lot lot, int bidder) {
        Bid bid = lot.bidOf(bidder);
        if (bid == null || bid.status == Status.LACKS_PAPERS || bid.status == Status.OUT_FOR_GOOD) {
            return false;
        }
        Award standing = standingAward(lot);
        return standing == null || !standing.signed;
    }

    private enum Status { SEALED, IN, LACKS_PAPERS, OUT_FOR_GOOD }

    private static final class Tender {
        final int number;
        final int closing;
        final int papers;
        final int weight;
        final int standing;
        final ArrayList<Lot> lots = new ArrayList<>();

        Tender(int number, int closing, int papers, int weight, int standing) {
            this.number = number;
            this.closing = closing;
            this.papers = papers;
            this.weight = weight;
            this.standing = standing;
        }
    }

    private static final class Bid {
        final int bidder;
        final int price;
        /** The quality as it was bid: a ruling changes the other one alone. */
        final int offered;
        int quality;
        Status statusAtOpening = Status.SEALED;
        Status status = Status.SEALED;

        Bid(int bidder, int price, int offered) {
            this.bidder = bidder;
            this.price = price;
            this.offered = offered;
            this.quality = offered;
        }

        void open(boolean hasPapers) {
            statusAtOpening = hasPapers ? Status.IN : Status.LACKS_PAPERS;
            status = statusAtOpening;
        }

        Bid asOpened() {
            Bid copy = new Bid(bidder, price, offered);
            copy.status = statusAtOpening;
            return copy;
        }
    }

    /** What a ruling or a lapse does to a bid; a lapse takes it out as PAPERS does. */
    private static final class Change {
        final int ground;
        final int bidder;
        final int quality;

        Change(int ground, int bidder, int quality) {
            this.ground = ground;
            this.bidder = bidder;
            this.quality = quality;
        }
    }

    private static final class Lot {
        final Tender tender;
        final int number;
        final int deposit;
        /** In the order in which they were made, which settles the last tie. */
        final ArrayList<Bid> bids = new ArrayList<>();
        final ArrayList<Change> changes = new ArrayList<>();

        Lot(Tender tender, int number, int deposit) {
            this.tender = tender;
            this.number = number;
            this.deposit = deposit;
        }

        /** The bid of a bidder; null if there is none. */
        Bid bidOf(int bidder) {
            for (int i = 0; i < bids.size(); i++) {
                Bid one = bids.get(i);
                if (one.bidder == bidder) {
                    return one;
                }
            }
            return null;
        }

        void takeBack(int bidder) {
            for (int i = 0; i < bids.size(); i++) {
                if (bids.get(i).bidder == bidder) {
                    bids.remove(i);
                    return;
                }
            }
        }

        int scoreOf(Bid bid) {
            int least = bid.price;
            for (int i = 0; i < bids.size(); i++) {
                Bid one = bids.get(i);
                if (one.status == Status.IN && one.price < least) {
                    least = one.price;
                }
            }
            int cheapness = bid.price > 0 ? least * 1000 / bid.price : 0;
            return cheapness * tender.weight + 10 * bid.quality * (FULL_WEIGHT - tender.weight);
        }

        /** The bid that is in with so many better ones; null if not so many are in. */
        Bid bidAtPlace(int place) {
            for (int i = 0; i < bids.size(); i++) {
                Bid bid = bids.get(i);
                if (bid.status == Status.IN && countBetter(i, bid) == place) {
                    return bid;
                }
            }
            return null;
        }

        private int countBetter(int index, Bid bid) {
            int score = scoreOf(bid);
            int count = 0;
            for (int i = 0; i < bids.size(); i++) {
                Bid one = bids.get(i);
                if (one.status != Status.IN) {
                    continue;
                }
                int lead = scoreOf(one) - score;
                if (lead == 0) {
                    lead = bid.price - one.price;
                }
                if (lead == 0) {
                    lead = index - i;
                }
                if (lead > 0) {
                    count++;
                }
            }
            return count;
        }

        void follow(Change change) {
            Bid touched = bidOf(change.bidder);
            if (touched == null) {
                return;
            }
            if (change.ground == QUALITY) {
                touched.quality = change.quality;
            } else if (change.ground == EXCLUDED) {
                touched.status = Status.IN;
            } else {
                touched.status = Status.OUT_FOR_GOOD;
            }
        }

        /** This lot once more, from its bids as they were opened through all changes. */
        Lot followedAnew() {
            Lot anew = new Lot(tender, number, deposit);
            for (int i = 0; i < bids.size(); i++) {
                anew.bids.add(bids.get(i).asOpened());
            }
            for (int i = 0; i < changes.size(); i++) {
                anew.follow(changes.get(i));
            }
            return anew;
        }
    }

    private static final class Award {
        final int number;
        final Lot lot;
        final Bid bid;
        final int finalFrom;
        boolean voided;
        boolean signed;
        boolean lapsed;

        Award(int number, Lot lot, Bid bid, int finalFrom) {
            this.number = number;
            this.lot = lot;
            this.bid = bid;
            this.finalFrom = finalFrom;
        }
    }

    private static final class Complaint {
        final int bidder;
        final Award award;
        final int ground;
        int state = OPEN;
        int dismissedOn;
        boolean wasAppealed;

        Complaint(int bidder, Award award, int ground) {
            this.bidder = bidder;
            this.award = award;
            this.ground = ground;
        }
    }

    private static final class Contract {
        final Award award;
        int called;

        Contract(Award award) {
            this.award = award;
        }
    }
}
