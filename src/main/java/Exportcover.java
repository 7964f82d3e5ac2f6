import java.util.ArrayList;

/** An office that insures that far buyers pay. The words in capitals are those of its document. */
public final class Exportcover {
    private static final int NONE = -1;

    private static final int LAST_DAY = 7200;
    private static final int DAYS_OF_YEAR = 360;
    private static final int NOTICE_DAYS = 90;
    private static final int OVERDUE_DAYS = 60;

    private static final int MOST_LANDS = 5;
    private static final int MOST_BUYERS = 12;
    private static final int MOST_EXPORTERS = 6;
    private static final int MOST_POLICIES = 8;
    private static final int MOST_SHIPMENTS = 48;

    private static final int TOP_CLASS = 7;
    private static final int TOP_GRADE = 5;
    private static final int TOP_CEILING = 999999;
    private static final int TOP_AMOUNT = 99999;
    private static final int TOP_RATE = 999;
    private static final int TOP_SEED = 99;
    private static final int SHORTEST_TERM = 30;
    private static final int LONGEST_TERM = 3600;

    private static final int FIGURES_OF_LAND = 9;
    private static final int FIGURES_OF_BUYER = 6;
    private static final int FIGURES_OF_EXPORTER = 6;
    private static final int FIGURES_OF_POLICY = 7;
    private static final int FIGURES_OF_SHIPMENT = 17;
    private static final int FIGURES_OF_BOOKS = 20;
    private static final int PARTIES = 3;

    private static final int COMMERCIAL = 1;
    private static final int POLITICAL = 2;

    private static final int IS_REPORTED = 1;
    private static final int IS_DISPUTED = 2;
    private static final int IS_CLAIMED = 4;
    private static final int IS_PUT_OFF = 8;
    private static final int IS_VOID = 16;
    private static final int IS_FAKE = 32;

    private final ArrayList<Land> lands = new ArrayList<Land>();
    private final ArrayList<Buyer> buyers = new ArrayList<Buyer>();
    private final ArrayList<Exporter> exporters = new ArrayList<Exporter>();
    private final ArrayList<Policy> policies = new ArrayList<Policy>();
    private final ArrayList<Shipment> shipments = new ArrayList<Shipment>();

    private final Chest office = new Chest();
    private final Chest rivalZero = new Chest();
    private final Chest rivalOne = new Chest();
    private final Chest world = new Chest();

    private int day;
    private int premiums;
    private int claims;
    private int recoveries;
    private int refused;

    public Exportcover() {
    }

    // ---- lands, buyers, exporters

    public int market(int seed) throws IllegalArgumentException, IllegalStateException {
        demandArgument(isWithin(seed, 0, TOP_SEED));
        demandState(lands.isEmpty() && buyers.isEmpty() && exporters.isEmpty());
        int drawn = seed;
        int ceilings = 0;
        for (int i = 0; i < 3; i++) {
            drawn = nextInRow(drawn);
            int grade = drawn % 8;
            drawn = nextInRow(drawn);
            addLand(grade, 200 * drawn);
            ceilings += 200 * drawn;
        }
        for (int i = 0; i < 3; i++) {
            addExporter();
        }
        for (int i = 0; i < 6; i++) {
            drawn = nextInRow(drawn);
            Land home = landAt(drawn % 3);
            drawn = nextInRow(drawn);
            Buyer founded = addBuyer(home, drawn % 6);
            drawn = nextInRow(drawn);
            world.giveTo(founded.chest, 20 * drawn);
        }
        return ceilings;
    }

    public int land(int grade, int ceiling) throws IllegalArgumentException, IllegalStateException {
        demandArgument(isWithin(grade, 0, TOP_CLASS) && isWithin(ceiling, 0, TOP_CEILING));
        demandState(lands.size() < MOST_LANDS);
        return addLand(grade, ceiling).number;
    }

    public int vote(int land, int one, int two, int three) throws IndexOutOfBoundsException, IllegalArgumentException {
        Land voted = landAt(land);
        demandArgument(isWithin(one, 0, TOP_CLASS));
        demandArgument(isWithin(two, 0, TOP_CLASS));
        demandArgument(isWithin(three, 0, TOP_CLASS));
        voted.grade = middleOf(one, two, three);
        return voted.grade;
    }

    public int ceiling(int land, int ceiling) throws IndexOutOfBoundsException, IllegalArgumentException {
        Land told = landAt(land);
        demandArgument(isWithin(ceiling, 0, TOP_CEILING));
        int before = told.ceiling;
        told.ceiling = ceiling;
        return before;
    }

    public boolean close(int land, boolean is) throws IndexOutOfBoundsException {
        Land told = landAt(land);
        boolean was = told.isClosed;
        told.isClosed = is;
        return was;
    }

    public int stop(int land, boolean is) throws IndexOutOfBoundsException {
        Land told = landAt(land);
        int before = told.stoppedSince;
        told.stoppedSince = since(before, is);
        return before;
    }

    public int war(int land, boolean is) throws IndexOutOfBoundsException {
        Land told = landAt(land);
        int before = told.warSince;
        told.warSince = since(before, is);
        return before;
    }

    public int buyer(int land, int grade) throws IndexOutOfBoundsException, IllegalArgumentException, IllegalStateException {
        Land home = landAt(land);
        demandArgument(isWithin(grade, 0, TOP_GRADE));
        demandState(buyers.size() < MOST_BUYERS);
        return addBuyer(home, grade).number;
    }

    public int earn(int buyer, int amount) throws IndexOutOfBoundsException, IllegalArgumentException {
        Buyer earner = buyerAt(buyer);
        demandArgument(isWithin(amount, 1, TOP_AMOUNT));
        world.giveTo(earner.chest, amount);
        return earner.chest.cents;
    }

    public boolean broke(int buyer) throws IndexOutOfBoundsException {
        Buyer told = buyerAt(buyer);
        boolean was = told.isBroke();
        told.brokeOn = since(told.brokeOn, true);
        return was;
    }

    public int exporter() throws IllegalStateException {
        demandState(exporters.size() < MOST_EXPORTERS);
        return addExporter().number;
    }

    public int link(int exporter, int buyer, boolean isOwned) throws IndexOutOfBoundsException {
        Exporter linked = exporterAt(exporter);
        int one = 1 << buyerAt(buyer).number;
        if (isOwned) {
            linked.owned |= one;
            return linked.owned;
        }
        linked.sellers |= one;
        return linked.sellers;
    }

    // ---- policies and shipments

    public int notice(int land, int rate) throws IndexOutOfBoundsException, IllegalArgumentException {
        Land told = landAt(land);
        demandArgument(isWithin(rate, 1, TOP_RATE));
        int before = told.noticeOn(day);
        told.noticeRate = rate;
        told.noticeDay = day;
        return before;
    }

    public int policy(int exporter, int cover, int rival, int quota) throws IndexOutOfBoundsException, IllegalArgumentException, IllegalStateException {
        Exporter holder = exporterAt(exporter);
        demandRival(rival);
        demandArgument(isWithin(cover, 50, 95));
        demandArgument(isWithin(quota, 0, rival == NONE ? 0 : 60));
        demandState(policies.size() < MOST_POLICIES);
        Policy written = new Policy(policies.size(), holder, cover, rival, quota);
        policies.add(written);
        return written.number;
    }

    public int limit(int policy, int buyer, int asked) throws IndexOutOfBoundsException, IllegalArgumentException, IllegalStateException {
        Policy told = policyAt(policy);
        Buyer of = buyerAt(buyer);
        demandArgument(isWithin(asked, 0, TOP_AMOUNT));
        demandState(!told.isEnded);
        int most = 2000 * (6 - of.grade);
        told.grant(of.number, Math.min(asked, most));
        return told.grantedFor(of.number);
    }

    public int cut(int policy, int buyer, int to) throws IndexOutOfBoundsException, IllegalArgumentException {
        Policy told = policyAt(policy);
        Buyer of = buyerAt(buyer);
        demandArgument(to >= 0);
        int before = told.grantedFor(of.number);
        told.grant(of.number, Math.min(before, to));
        return before - told.grantedFor(of.number);
    }

    public int ship(int policy, int buyer, int amount, int term, boolean isFake) throws IndexOutOfBoundsException, IllegalArgumentException, IllegalStateException {
        Policy under = policyAt(policy);
        Buyer to = buyerAt(buyer);
        demandGoods(amount, term);
        demandState(shipments.size() < MOST_SHIPMENTS);
        Shipment sailed = new Shipment(under, to, amount, day, term, isFake);
        int rate = to.land.rateOn(day, to.grade, term);
        int reason = reasonOf(under, to, amount, term);
        sailed.keepTerms(rate, insuredOf(under, to, amount, term), reason);
        shipments.add(sailed);
        under.exporter.suppliedBuyers |= 1 << to.number;
        takePremium(sailed);
        return shipments.size() - 1;
    }

    public int pay(int buyer, int amount) throws IndexOutOfBoundsException, IllegalArgumentException, IllegalStateException {
        Buyer payer = buyerAt(buyer);
        demandArgument(isWithin(amount, 1, TOP_AMOUNT));
        demandState(payer.canPay());
        int there = Math.min(amount, payer.chest.cents);
        int paid = 0;
        for (int i = 0; i < shipments.size() && paid < there; i++) {
            Shipment next = firstToPay(payer);
            if (next == null) {
                return paid;
            }
            int part = Math.min(there - paid, next.left);
            settle(next, payer.chest, part);
            paid += part;
        }
        return paid;
    }

    public int report(int shipment) throws IndexOutOfBoundsException, IllegalStateException {
        Shipment told = shipmentAt(shipment);
        demandState(day >= told.due && told.left > 0 && !told.isReported);
        told.isReported = true;
        return told.causeOn(day);
    }

    public int dispute(int shipment) throws IndexOutOfBoundsException, IllegalStateException {
        Shipment told = shipmentAt(shipment);
        demandState(told.isOpen() && !told.isDisputed);
        told.isDisputed = true;
        return told.insured;
    }

    public int judge(int shipment, boolean isForExporter) throws IndexOutOfBoundsException, IllegalStateException {
        Shipment judged = shipmentAt(shipment);
        demandState(judged.isDisputed);
        judged.isDisputed = false;
        if (!isForExporter) {
            judged.insured = 0;
        }
        return judged.insured;
    }

    public int claim(int shipment) throws IndexOutOfBoundsException, IllegalStateException {
        Shipment lost = shipmentAt(shipment);
        int from = lost.claimableFrom();
        demandState(lost.isReported && from != NONE && day >= from);
        Policy policy = lost.policy;
        int gross = Math.min(lost.insured, lost.left) * policy.cover / 100;
        int share = gross * policy.quota / 100;
        lost.damage = new Damage(lost.left, gross, share);
        office.giveTo(policy.exporter.chest, gross);
        chestOfRival(policy.rival).giveTo(office, share);
        claims += gross - share;
        return gross;
    }

    public int salvage(int shipment, int amount) throws IndexOutOfBoundsException, IllegalArgumentException, IllegalStateException {
        Shipment found = shipmentAt(shipment);
        demandArgument(isWithin(amount, 1, TOP_AMOUNT));
        demandState(found.damage != null && !found.isVoid);
        int saved = Math.min(amount, found.left);
        settle(found, world, saved);
        return saved;
    }

    public int club(int land, int hundredths, int years) throws IndexOutOfBoundsException, IllegalArgumentException {
        Land debtor = landAt(land);
        demandArgument(isWithin(hundredths, 10, 100) && isWithin(years, 1, 10));
        int count = 0;
        for (int i = 0; i < shipments.size(); i++) {
            Shipment each = shipments.get(i);
            if (each.buyer.land == debtor && each.isToPay() && each.due <= day) {
                each.putOff(hundredths, years);
                count++;
            }
        }
        return count;
    }

    public boolean inspect(int shipment) throws IndexOutOfBoundsException, IllegalStateException {
        Shipment seen = shipmentAt(shipment);
        demandState(!seen.isVoid);
        if (!seen.isFake) {
            return false;
        }
        seen.isVoid = true;
        seen.policy.isEnded = true;
        payBack(seen);
        return true;
    }

    public int bribe(int exporter) throws IndexOutOfBoundsException {
        Exporter briber = exporterAt(exporter);
        int ended = 0;
        for (int i = 0; i < policies.size(); i++) {
            Policy each = policies.get(i);
            if (each.exporter == briber && !each.isEnded) {
                each.isEnded = true;
                ended++;
            }
        }
        return ended;
    }

    public int pass(int days) throws IllegalArgumentException, IllegalStateException {
        demandArgument(isWithin(days, 1, 720));
        demandState(day + days <= LAST_DAY);
        for (int i = 0; i < days; i++) {
            day++;
            payWhatIsDue();
            if (day % DAYS_OF_YEAR == 0) {
                payWhatIsPutOff();
            }
        }
        return day;
    }

    public int knock() {
        refused++;
        return refused;
    }

    // ---- what is asked

    public int ofLand(int land, int what) throws IndexOutOfBoundsException, IllegalArgumentException {
        Land asked = landAt(land);
        demandArgument(isWithin(what, 0, FIGURES_OF_LAND - 1));
        return figureOfLand(asked, what);
    }

    public int ofBuyer(int buyer, int what) throws IndexOutOfBoundsException, IllegalArgumentException {
        Buyer asked = buyerAt(buyer);
        demandArgument(isWithin(what, 0, FIGURES_OF_BUYER - 1));
        return figureOfBuyer(asked, what);
    }

    public int ofExporter(int exporter, int what) throws IndexOutOfBoundsException, IllegalArgumentException {
        Exporter asked = exporterAt(exporter);
        demandArgument(isWithin(what, 0, FIGURES_OF_EXPORTER - 1));
        return figureOfExporter(asked, what);
    }

    public int ofPolicy(int policy, int what) throws IndexOutOfBoundsException, IllegalArgumentException {
        Policy asked = policyAt(policy);
        demandArgument(isWithin(what, 0, FIGURES_OF_POLICY - 1));
        return figureOfPolicy(asked, what);
    }

    public int granted(int policy, int buyer, boolean isGranted) throws IndexOutOfBoundsException {
        Policy asked = policyAt(policy);
        Buyer of = buyerAt(buyer);
        return isGranted ? asked.grantedFor(of.number) : riskUnder(asked, of);
    }

    public int ofShipment(int shipment, int what) throws IndexOutOfBoundsException, IllegalArgumentException {
        Shipment asked = shipmentAt(shipment);
        demandArgument(isWithin(what, 0, FIGURES_OF_SHIPMENT - 1));
        return figureOfShipment(asked, what);
    }

    public int part(int shipment, int whose, boolean isHad) throws IndexOutOfBoundsException, IllegalArgumentException {
        Shipment asked = shipmentAt(shipment);
        demandArgument(isWithin(whose, 0, PARTIES - 1));
        return figureOfPart(asked, whose, isHad);
    }

    public int books(int what) throws IllegalArgumentException {
        demandArgument(isWithin(what, 0, FIGURES_OF_BOOKS - 1));
        return figureOfBooks(what);
    }

    public String slip(int shipment) throws IndexOutOfBoundsException {
        Shipment asked = shipmentAt(shipment);
        StringBuilder paper = new StringBuilder();
        writeSlip(paper, shipment, asked);
        return paper.toString();
    }

    // ---- what would be (nothing is changed)

    public int rate(int land, int grade, int term) throws IndexOutOfBoundsException, IllegalArgumentException {
        Land asked = landAt(land);
        demandArgument(isWithin(grade, 0, TOP_GRADE));
        demandArgument(isWithin(term, SHORTEST_TERM, LONGEST_TERM));
        return asked.rateOn(day, grade, term);
    }

    public int wouldInsure(int policy, int buyer, int amount, int term, boolean isReason) throws IndexOutOfBoundsException, IllegalArgumentException {
        Policy under = policyAt(policy);
        Buyer to = buyerAt(buyer);
        demandGoods(amount, term);
        return isReason ? reasonOf(under, to, amount, term) : insuredOf(under, to, amount, term);
    }

    public int when(int shipment) throws IndexOutOfBoundsException {
        return shipmentAt(shipment).claimableFrom();
    }

    public int circles() {
        int set = 0;
        for (int i = 0; i < exporters.size(); i++) {
            if (isInCircle(exporters.get(i))) {
                set |= 1 << i;
            }
        }
        return set;
    }

    public double expected() {
        double sum = 0.0;
        for (int i = 0; i < lands.size(); i++) {
            Land each = lands.get(i);
            sum += each.chanceToFail() * riskIn(each);
        }
        return sum;
    }

    public double probable(int amount) throws IllegalArgumentException {
        demandArgument(amount >= 0);
        int[] risks = new int[MOST_LANDS];
        for (int i = 0; i < lands.size() && i < risks.length; i++) {
            risks[i] = riskIn(lands.get(i));
        }
        double sum = 0.0;
        for (int set = 0; set < 1 << lands.size(); set++) {
            if (sumOfSet(risks, set) >= amount) {
                sum += chanceOfSet(set);
            }
        }
        return sum;
    }

    public boolean isSound() {
        if (!areChestsSound() || balance() != office.cents) {
            return false;
        }
        for (int i = 0; i < shipments.size(); i++) {
            if (!shipments.get(i).isSoundAlone()) {
                return false;
            }
        }
        return true;
    }

    public long digest() {
        long d = 58265;
        for (int what = 0; what < FIGURES_OF_BOOKS; what++) {
            d = d * 31 + figureOfBooks(what);
        }
        d = digestOfLands(d);
        d = digestOfBuyers(d);
        d = digestOfExporters(d);
        d = digestOfPolicies(d);
        d = digestOfShipments(d);
        d = d * 31 + circles();
        d = d * 31 + (long) (1024 * expected());
        d = d * 31 + (long) (1024 * probable(1000));
        return d * 31 + (isSound() ? 1 : 0);
    }

    // ---- guards

    private static boolean isWithin(int number, int least, int most) {
        return number >= least && number <= most;
    }

    private static void demandRival(int rival) {
        if (!isWithin(rival, NONE, 1)) {
            throw new IndexOutOfBoundsException("there is no such rival");
        }
    }

    private static void demandArgument(boolean isFine) {
        if (!isFine) {
            throw new IllegalArgumentException("outside what is allowed");
        }
    }

    private static void demandState(boolean isFine) {
        if (!isFine) {
            throw new IllegalStateException("not as things stand");
        }
    }

    private static void demandGoods(int amount, int term) {
        demandArgument(isWithin(amount, 1, TOP_AMOUNT));
        demandArgument(isWithin(term, SHORTEST_TERM, LONGEST_TERM));
    }

    private Land landAt(int land) {
        if (land < 0 || land >= lands.size()) {
            throw new IndexOutOfBoundsException("there is no such land");
        }
        return lands.get(land);
    }

    private Buyer buyerAt(int buyer) {
        if (buyer < 0 || buyer >= buyers.size()) {
            throw new IndexOutOfBoundsException("there is no such buyer");
        }
        return buyers.get(buyer);
    }

    private Exporter exporterAt(int exporter) {
        if (exporter < 0 || exporter >= exporters.size()) {
            throw new IndexOutOfBoundsException("there is no such exporter");
        }
        return exporters.get(exporter);
    }

    private Policy policyAt(int policy) {
        if (policy < 0 || policy >= policies.size()) {
            throw new IndexOutOfBoundsException("there is no such policy");
        }
        return policies.get(policy);
    }

    private Shipment shipmentAt(int shipment) {
        if (shipment < 0 || shipment >= shipments.size()) {
            throw new IndexOutOfBoundsException("there is no such shipment");
        }
        return shipments.get(shipment);
    }

    // ---- lands, buyers and exporters, inside

    private static int nextInRow(int number) {
        return (27 * number + 29) % 101;
    }

    private static int middleOf(int one, int two, int three) {
        int low = Math.min(one, two);
        int high = Math.max(one, two);
        return Math.max(low, Math.min(high, three));
    }

    private int since(int before, boolean is) {
        if (!is) {
            return NONE;
        }
        return before == NONE ? day : before;
    }

    private Land addLand(int grade, int ceiling) {
        Land added = new Land(lands.size(), grade, ceiling);
        lands.add(added);
        return added;
    }

    private Buyer addBuyer(Land home, int grade) {
        Buyer added = new Buyer(buyers.size(), home, grade);
        buyers.add(added);
        return added;
    }

    private Exporter addExporter() {
        Exporter added = new Exporter(exporters.size());
        exporters.add(added);
        return added;
    }

    // ---- cover, inside

    private int riskUnder(Policy policy, Buyer buyer) {
        int sum = 0;
        for (int i = 0; i < shipments.size(); i++) {
            Shipment each = shipments.get(i);
            if (each.policy == policy && each.buyer == buyer) {
                sum += each.atRisk();
            }
        }
        return sum;
    }

    private int riskIn(Land land) {
        int sum = 0;
        for (int i = 0; i < shipments.size(); i++) {
            Shipment each = shipments.get(i);
            if (each.buyer.land == land) {
                sum += each.atRisk();
            }
        }
        return sum;
    }

    private boolean isCoverStopped(Policy policy, Buyer buyer) {
        for (int i = 0; i < shipments.size(); i++) {
            Shipment each = shipments.get(i);
            boolean isOfThese = each.policy == policy && each.buyer == buyer;
            if (isOfThese && each.isOverdue(day) && !each.isReported) {
                return true;
            }
        }
        return false;
    }

    /** The REASON for which nothing at all is INSURED, or 0. */
    private int refusalOf(Policy policy, Buyer buyer, int term) {
        if (policy.isEnded) {
            return 1;
        }
        if (buyer.land.isClosed) {
            return 2;
        }
        if (buyer.land.isTroubled()) {
            return 3;
        }
        if (buyer.isBroke()) {
            return 4;
        }
        if (isCoverStopped(policy, buyer)) {
            return 5;
        }
        return term > buyer.land.longestTermOn(day) ? 6 : 0;
    }

    private int roomFor(Policy policy, Buyer buyer) {
        return Math.max(0, policy.grantedFor(buyer.number) - riskUnder(policy, buyer));
    }

    private int spaceIn(Land land) {
        return Math.max(0, land.ceiling - riskIn(land));
    }

    private int insuredOf(Policy policy, Buyer buyer, int amount, int term) {
        if (refusalOf(policy, buyer, term) != 0) {
            return 0;
        }
        return Math.min(amount, Math.min(roomFor(policy, buyer), spaceIn(buyer.land)));
    }

    private int reasonOf(Policy policy, Buyer buyer, int amount, int term) {
        int refusal = refusalOf(policy, buyer, term);
        if (refusal != 0) {
            return refusal;
        }
        int room = roomFor(policy, buyer);
        int space = spaceIn(buyer.land);
        if (amount <= room && amount <= space) {
            return 0;
        }
        return room <= space ? 7 : 8;
    }

    // ---- money, inside

    /** Without a RIVAL the QUOTA is 0, and so is whatever goes to or from this CHEST. */
    private Chest chestOfRival(int rival) {
        return rival == 1 ? rivalOne : rivalZero;
    }

    private void takePremium(Shipment sailed) {
        Policy policy = sailed.policy;
        int passedOn = sailed.premium * policy.quota / 100;
        policy.exporter.chest.giveTo(office, sailed.premium);
        office.giveTo(chestOfRival(policy.rival), passedOn);
        premiums += sailed.premium - passedOn;
    }

    private void payBack(Shipment fake) {
        Damage damage = fake.damage;
        if (damage == null) {
            return;
        }
        Policy policy = fake.policy;
        policy.exporter.chest.giveTo(office, damage.gross);
        office.giveTo(chestOfRival(policy.rival), damage.share);
        claims -= damage.gross - damage.share;
    }

    private Shipment firstToPay(Buyer payer) {
        Shipment first = null;
        for (int i = 0; i < shipments.size(); i++) {
            Shipment each = shipments.get(i);
            if (each.buyer == payer && each.isToPay() && (first == null || each.due < first.due)) {
                first = each;
            }
        }
        return first;
    }

    private void settle(Shipment paid, Chest from, int amount) {
        Exporter exporter = paid.policy.exporter;
        Damage damage = paid.damage;
        paid.left -= amount;
        if (damage == null) {
            from.giveTo(exporter.chest, amount);
            return;
        }
        int officeBefore = damage.officeHad;
        int rivalBefore = damage.rivalHad;
        damage.recover(amount);
        int toOffice = damage.officeHad - officeBefore;
        int toRival = damage.rivalHad - rivalBefore;
        from.giveTo(office, toOffice);
        from.giveTo(chestOfRival(paid.policy.rival), toRival);
        from.giveTo(exporter.chest, amount - toOffice - toRival);
        recoveries += toOffice;
    }

    private void payWhatIsDue() {
        for (int i = 0; i < shipments.size(); i++) {
            Shipment each = shipments.get(i);
            if (each.due == day && each.isToPay() && each.buyer.canPay()) {
                Chest chest = each.buyer.chest;
                settle(each, chest, Math.min(each.left, chest.cents));
            }
        }
    }

    private void payWhatIsPutOff() {
        for (int i = 0; i < shipments.size(); i++) {
            Shipment each = shipments.get(i);
            Delay delay = each.delay;
            boolean isToCome = delay != null && !each.isVoid && each.left > 0;
            if (isToCome && each.buyer.land.warSince == NONE) {
                settle(each, world, delay.nextOf(each.left));
            }
        }
    }

    private int balance() {
        return premiums + recoveries - claims;
    }

    private boolean areChestsSound() {
        int sum = office.cents + rivalZero.cents + rivalOne.cents + world.cents;
        for (int i = 0; i < exporters.size(); i++) {
            sum += exporters.get(i).chest.cents;
        }
        for (int i = 0; i < buyers.size(); i++) {
            int cents = buyers.get(i).chest.cents;
            if (cents < 0) {
                return false;
            }
            sum += cents;
        }
        return sum == 0;
    }

    // ---- circles, inside

    /** The set of EXPORTERS to which GOODS come from a set of BUYERS, by any number of steps. */
    private int reachedFrom(int from) {
        int goods = from;
        int reached = 0;
        // each round but the last one adds an EXPORTER, if there is one to add
        for (int round = 0; round < exporters.size(); round++) {
            for (int i = 0; i < exporters.size(); i++) {
                Exporter each = exporters.get(i);
                if ((each.suppliers() & goods) != 0) {
                    reached |= 1 << i;
                    goods |= each.suppliedBuyers;
                }
            }
        }
        return reached;
    }

    private boolean isInCircle(Exporter exporter) {
        return (reachedFrom(exporter.suppliedBuyers) >> exporter.number & 1) == 1;
    }

    /** The way from the EXPORTER to the BUYER is the SHIPMENT itself. */
    private boolean isSuspect(Shipment shipment) {
        int reached = reachedFrom(1 << shipment.buyer.number);
        return (reached >> shipment.policy.exporter.number & 1) == 1;
    }

    private int countOfSuspect() {
        int count = 0;
        for (int i = 0; i < shipments.size(); i++) {
            if (isSuspect(shipments.get(i))) {
                count++;
            }
        }
        return count;
    }

    // ---- chances, inside

    private static int sumOfSet(int[] risks, int set) {
        int sum = 0;
        for (int i = 0; i < risks.length; i++) {
            if ((set >> i & 1) == 1) {
                sum += risks[i];
            }
        }
        return sum;
    }

    private double chanceOfSet(int set) {
        double product = 1.0;
        for (int i = 0; i < lands.size(); i++) {
            double chance = lands.get(i).chanceToFail();
            product *= (set >> i & 1) == 1 ? chance : 1.0 - chance;
        }
        return product;
    }

    // ---- figures, inside

    private int figureOfLand(Land land, int what) {
        switch (what) {
            case 0: return land.grade;
            case 1: return land.ceiling;
            case 2: return land.isClosed ? 1 : 0;
            case 3: return land.stoppedSince;
            case 4: return land.warSince;
            case 5: return land.trouble();
            case 6: return riskIn(land);
            case 7: return land.noticeOn(day);
            default: return land.longestTermOn(day);
        }
    }

    private int figureOfBuyer(Buyer buyer, int what) {
        switch (what) {
            case 0: return buyer.land.number;
            case 1: return buyer.grade;
            case 2: return buyer.brokeOn;
            case 3: return buyer.chest.cents;
            case 4: return buyer.canPay() ? 1 : 0;
            default: return debtOf(buyer);
        }
    }

    private int debtOf(Buyer buyer) {
        int sum = 0;
        for (int i = 0; i < shipments.size(); i++) {
            Shipment each = shipments.get(i);
            if (each.buyer == buyer && !each.isFake && !each.isVoid) {
                sum += each.left;
            }
        }
        return sum;
    }

    private int figureOfExporter(Exporter exporter, int what) {
        switch (what) {
            case 0: return exporter.chest.cents;
            case 1: return exporter.owned;
            case 2: return exporter.sellers;
            case 3: return countOfRunningPolicies(exporter);
            case 4: return countOfShipmentsBy(exporter);
            default: return isInCircle(exporter) ? 1 : 0;
        }
    }

    private int countOfRunningPolicies(Exporter exporter) {
        int count = 0;
        for (int i = 0; i < policies.size(); i++) {
            Policy each = policies.get(i);
            if (each.exporter == exporter && !each.isEnded) {
                count++;
            }
        }
        return count;
    }

    private int countOfShipmentsBy(Exporter exporter) {
        int count = 0;
        for (int i = 0; i < shipments.size(); i++) {
            if (shipments.get(i).policy.exporter == exporter) {
                count++;
            }
        }
        return count;
    }

    private int figureOfPolicy(Policy policy, int what) {
        switch (what) {
            case 0: return policy.exporter.number;
            case 1: return policy.cover;
            case 2: return policy.rival;
            case 3: return policy.quota;
            case 4: return policy.isEnded ? 1 : 0;
            case 5: return countOfShipmentsUnder(policy);
            default: return premiumsUnder(policy);
        }
    }

    private int countOfShipmentsUnder(Policy policy) {
        int count = 0;
        for (int i = 0; i < shipments.size(); i++) {
            if (shipments.get(i).policy == policy) {
                count++;
            }
        }
        return count;
    }

    private int premiumsUnder(Policy policy) {
        int sum = 0;
        for (int i = 0; i < shipments.size(); i++) {
            Shipment each = shipments.get(i);
            if (each.policy == policy) {
                sum += each.premium;
            }
        }
        return sum;
    }

    private int figureOfShipment(Shipment shipment, int what) {
        Damage damage = shipment.damage;
        Delay delay = shipment.delay;
        switch (what) {
            case 0: return shipment.policy.number;
            case 1: return shipment.buyer.number;
            case 2: return shipment.amount;
            case 3: return shipment.sailedOn;
            case 4: return shipment.due;
            case 5: return shipment.left;
            case 6: return shipment.insured;
            case 7: return shipment.reason;
            case 8: return shipment.rate;
            case 9: return shipment.premium;
            case 10: return shipment.causeOn(day);
            case 11: return shipment.marks();
            case 12: return damage == null ? 0 : damage.loss;
            case 13: return damage == null ? 0 : damage.gross;
            case 14: return damage == null ? 0 : damage.recovered;
            case 15: return delay == null ? 0 : delay.forgiven;
            default: return delay == null ? 0 : delay.owed;
        }
    }

    private static int figureOfPart(Shipment shipment, int whose, boolean isHad) {
        Damage damage = shipment.damage;
        if (damage == null) {
            return 0;
        }
        return isHad ? damage.hadBy(whose) : damage.partOf(whose);
    }

    private int figureOfBooks(int what) {
        switch (what) {
            case 0: return day;
            case 1: return day / DAYS_OF_YEAR;
            case 2: return lands.size();
            case 3: return buyers.size();
            case 4: return exporters.size();
            case 5: return policies.size();
            case 6: return shipments.size();
            case 7: return office.cents;
            case 8: return rivalZero.cents;
            case 9: return rivalOne.cents;
            case 10: return world.cents;
            case 11: return premiums;
            case 12: return claims;
            case 13: return recoveries;
            case 14: return balance();
            case 15: return countOfMarked(IS_CLAIMED);
            case 16: return countOfMarked(IS_PUT_OFF);
            case 17: return countOfMarked(IS_VOID);
            case 18: return countOfSuspect();
            default: return refused;
        }
    }

    private int countOfMarked(int mark) {
        int count = 0;
        for (int i = 0; i < shipments.size(); i++) {
            if ((shipments.get(i).marks() & mark) != 0) {
                count++;
            }
        }
        return count;
    }

    private static void writeSlip(StringBuilder paper, int number, Shipment shipment) {
        paper.append(number).append(": ").append(shipment.policy.exporter.number);
        paper.append('>').append(shipment.buyer.number);
        paper.append(' ').append(shipment.left).append('/').append(shipment.amount);
        int marks = shipment.marks();
        writeIfMarked(paper, marks, IS_REPORTED, " reported");
        writeIfMarked(paper, marks, IS_DISPUTED, " disputed");
        writeIfMarked(paper, marks, IS_CLAIMED, " claimed");
        writeIfMarked(paper, marks, IS_PUT_OFF, " put off");
        writeIfMarked(paper, marks, IS_VOID, " void");
    }

    private static void writeIfMarked(StringBuilder paper, int marks, int mark, String word) {
        if ((marks & mark) != 0) {
            paper.append(word);
        }
    }

    // ---- digest, inside

    private long digestOfLands(long start) {
        long d = start;
        for (int i = 0; i < lands.size(); i++) {
            Land each = lands.get(i);
            for (int what = 0; what < FIGURES_OF_LAND; what++) {
                d = d * 31 + figureOfLand(each, what);
            }
        }
        return d;
    }

    private long digestOfBuyers(long start) {
        long d = start;
        for (int i = 0; i < buyers.size(); i++) {
            Buyer each = buyers.get(i);
            for (int what = 0; what < FIGURES_OF_BUYER; what++) {
                d = d * 31 + figureOfBuyer(each, what);
            }
        }
        return d;
    }

    private long digestOfExporters(long start) {
        long d = start;
        for (int i = 0; i < exporters.size(); i++) {
            Exporter each = exporters.get(i);
            for (int what = 0; what < FIGURES_OF_EXPORTER; what++) {
                d = d * 31 + figureOfExporter(each, what);
            }
        }
        return d;
    }

    private long digestOfPolicies(long start) {
        long d = start;
        for (int i = 0; i < policies.size(); i++) {
            Policy each = policies.get(i);
            for (int what = 0; what < FIGURES_OF_POLICY; what++) {
                d = d * 31 + figureOfPolicy(each, what);
            }
            for (int k = 0; k < buyers.size(); k++) {
                Buyer of = buyers.get(k);
                d = d * 31 + each.grantedFor(of.number);
                d = d * 31 + riskUnder(each, of);
            }
        }
        return d;
    }

    private long digestOfShipments(long start) {
        long d = start;
        StringBuilder paper = new StringBuilder();
        for (int i = 0; i < shipments.size(); i++) {
            Shipment each = shipments.get(i);
            for (int what = 0; what < FIGURES_OF_SHIPMENT; what++) {
                d = d * 31 + figureOfShipment(each, what);
            }
            for (int whose = 0; whose < PARTIES; whose++) {
                d = d * 31 + figureOfPart(each, whose, false);
                d = d * 31 + figureOfPart(each, whose, true);
            }
            d = d * 31 + each.claimableFrom();
            paper.setLength(0);
            writeSlip(paper, i, each);
            d = d * 31 + paper.length();
        }
        return d;
    }

    private static final class Chest {
        int cents;

        /** What is below 0 goes the other way. */
        void giveTo(Chest other, int amount) {
            cents -= amount;
            other.cents += amount;
        }
    }

    private static final class Land {
        final int number;
        int grade;
        int ceiling;
        boolean isClosed;
        int stoppedSince = NONE;
        int warSince = NONE;
        int noticeRate;
        int noticeDay = NONE;

        Land(int number, int grade, int ceiling) {
            this.number = number;
            this.grade = grade;
            this.ceiling = ceiling;
        }

        int trouble() {
            if (stoppedSince == NONE) {
                return warSince;
            }
            return warSince == NONE ? stoppedSince : Math.min(stoppedSince, warSince);
        }

        boolean isTroubled() {
            return trouble() != NONE;
        }

        /** The RATE of the NOTICE that holds, or NONE. */
        int noticeOn(int day) {
            boolean isHolding = noticeDay != NONE && day - noticeDay < NOTICE_DAYS;
            return isHolding ? noticeRate : NONE;
        }

        int rateOn(int day, int gradeOfBuyer, int term) {
            int horizon = (term + 179) / 180;
            int own = 8 + 3 * grade * grade + (grade + 1) * horizon + 4 * gradeOfBuyer;
            int noticed = noticeOn(day);
            return noticed == NONE ? own : Math.min(own, noticed);
        }

        int longestTermOn(int day) {
            if (grade <= 2 || noticeOn(day) != NONE) {
                return LONGEST_TERM;
            }
            return grade <= 5 ? 1800 : 360;
        }

        double chanceToFail() {
            return (grade * grade + 1) / 64.0;
        }
    }

    private static final class Buyer {
        final int number;
        final Land land;
        final int grade;
        final Chest chest = new Chest();
        int brokeOn = NONE;

        Buyer(int number, Land land, int grade) {
            this.number = number;
            this.land = land;
            this.grade = grade;
        }

        boolean isBroke() {
            return brokeOn != NONE;
        }

        boolean canPay() {
            return !isBroke() && !land.isTroubled();
        }
    }

    private static final class Exporter {
        final int number;
        final Chest chest = new Chest();
        int owned;
        int sellers;
        int suppliedBuyers;

        Exporter(int number) {
            this.number = number;
        }

        /** The set of BUYERS from which GOODS go to it. */
        int suppliers() {
            return owned | sellers;
        }
    }

    private static final class Policy {
        final int number;
        final Exporter exporter;
        final int cover;
        final int rival;
        final int quota;
        final int[] limits = new int[MOST_BUYERS];
        boolean isEnded;

        Policy(int number, Exporter exporter, int cover, int rival, int quota) {
            this.number = number;
            this.exporter = exporter;
            this.cover = cover;
            this.rival = rival;
            this.quota = quota;
        }

        int grantedFor(int buyer) {
            return buyer >= 0 && buyer < limits.length ? limits[buyer] : 0;
        }

        void grant(int buyer, int amount) {
            if (buyer >= 0 && buyer < limits.length) {
                limits[buyer] = amount;
            }
        }
    }

    /** COVER, QUOTA and RIVAL stand in its POLICY alone, where they never change. */
    private static final class Shipment {
        final Policy policy;
        final Buyer buyer;
        final int amount;
        final int sailedOn;
        final int due;
        final boolean isFake;
        int rate;
        int insured;
        int reason;
        int premium;
        int left;
        boolean isReported;
        boolean isDisputed;
        boolean isVoid;
        /** Null, as long as it is not CLAIMED. */
        Damage damage;
        /** Null, as long as it is not PUT OFF. */
        Delay delay;

        Shipment(Policy policy, Buyer buyer, int amount, int day, int term, boolean isFake) {
            this.policy = policy;
            this.buyer = buyer;
            this.amount = amount;
            this.sailedOn = day;
            this.due = day + term;
            this.isFake = isFake;
            this.left = amount;
        }

        void keepTerms(int rateThen, int insuredThen, int reasonThen) {
            rate = rateThen;
            insured = insuredThen;
            reason = reasonThen;
            int reckoned = insuredThen * rateThen / 10000;
            premium = reckoned == 0 && insuredThen != 0 ? 1 : reckoned;
        }

        boolean isOpen() {
            return damage == null && delay == null && !isVoid;
        }

        /** Whether its BUYER still pays for it, if it CAN PAY. */
        boolean isToPay() {
            return !isFake && !isVoid && delay == null && left > 0;
        }

        int atRisk() {
            return isOpen() ? Math.min(insured, left) : 0;
        }

        boolean isOverdue(int day) {
            return day > due + OVERDUE_DAYS && left > 0;
        }

        int causeOn(int day) {
            return day >= due && left > 0 ? causeOnceDue() : 0;
        }

        int causeOnceDue() {
            int trouble = buyer.land.trouble();
            boolean isTroubled = trouble != NONE && trouble <= due;
            boolean isBrokeBefore = buyer.isBroke() && buyer.brokeOn < trouble;
            return isTroubled && !isBrokeBefore ? POLITICAL : COMMERCIAL;
        }

        int waiting() {
            if (causeOnceDue() == POLITICAL) {
                return 90;
            }
            return buyer.isBroke() ? 30 : 180;
        }

        /** The DAY from which on one can CLAIM, once it is REPORTED, or NONE. */
        int claimableFrom() {
            if (!isOpen() || isDisputed || left <= 0 || insured <= 0) {
                return NONE;
            }
            return due + waiting();
        }

        void putOff(int hundredths, int years) {
            int owed = left * hundredths / 100;
            delay = new Delay(owed, left - owed, years);
            left = owed;
        }

        int marks() {
            int marks = isReported ? IS_REPORTED : 0;
            marks += isDisputed ? IS_DISPUTED : 0;
            marks += damage != null ? IS_CLAIMED : 0;
            marks += delay != null ? IS_PUT_OFF : 0;
            marks += isVoid ? IS_VOID : 0;
            return marks + (isFake ? IS_FAKE : 0);
        }

        boolean isSoundAlone() {
            if (left < 0 || left > amount || insured > amount) {
                return false;
            }
            return (isFake || !isVoid) && isDamageSound();
        }

        private boolean isDamageSound() {
            if (damage == null) {
                return true;
            }
            // what is PUT OFF can not be CLAIMED any more, so all of it was FORGIVEN since
            int forgiven = delay == null ? 0 : delay.forgiven;
            return damage.isSplitSound() && damage.loss == left + damage.recovered + forgiven;
        }
    }

    /** What was CLAIMED for a SHIPMENT, and what was RECOVERED of it. */
    private static final class Damage {
        final int loss;
        final int gross;
        final int share;
        int recovered;
        int exporterHad;
        int officeHad;
        int rivalHad;

        Damage(int loss, int gross, int share) {
            this.loss = loss;
            this.gross = gross;
            this.share = share;
        }

        int partOf(int whose) {
            switch (whose) {
                case 0: return loss - gross;
                case 1: return gross - share;
                default: return share;
            }
        }

        int hadBy(int whose) {
            switch (whose) {
                case 0: return exporterHad;
                case 1: return officeHad;
                default: return rivalHad;
            }
        }

        void recover(int amount) {
            int officeBefore = officeHad;
            int rivalBefore = rivalHad;
            recovered += amount;
            officeHad = dueOf(partOf(1));
            rivalHad = dueOf(partOf(2));
            exporterHad += amount - (officeHad - officeBefore) - (rivalHad - rivalBefore);
        }

        private int dueOf(int part) {
            return loss > 0 ? (int) ((long) recovered * part / loss) : 0;
        }

        boolean isSplitSound() {
            boolean arePartsLoss = partOf(0) + partOf(1) + partOf(2) == loss;
            return arePartsLoss && hadBy(0) + hadBy(1) + hadBy(2) == recovered;
        }
    }

    /** How the CLUB put off a SHIPMENT. */
    private static final class Delay {
        final int owed;
        final int forgiven;
        final int years;
        int times;

        Delay(int owed, int forgiven, int years) {
            this.owed = owed;
            this.forgiven = forgiven;
            this.years = years;
        }

        /** Counts a time, and tells what comes at it, of what is LEFT. */
        int nextOf(int left) {
            times++;
            if (years <= 0 || times >= years) {
                return left;
            }
            return Math.min(left, owed / years);
        }
    }
}
