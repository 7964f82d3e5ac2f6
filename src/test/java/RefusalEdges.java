/** What the document says of exceptions: a refused call changes nothing, and what is named first is thrown. */
final class RefusalEdges {
    private static final Class<?> INDEX = IndexOutOfBoundsException.class;
    private static final Class<?> ARGUMENT = IllegalArgumentException.class;
    private static final Class<?> STATE = IllegalStateException.class;

    private final Sentences said;

    RefusalEdges(Sentences said) {
        this.said = said;
    }

    void run() {
        changesNothing();
        namedFirst();
        namedFirstOnTheLastDay();
    }

    /**
     * All is full. SHIPMENT 0 is CLAIMED, 1 PUT OFF, 2 VOID, 3 in DISPUTE, 4 not DUE, 5 paid; POLICIES 1 and 7 are
     * ENDED; BUYER 1 is BROKE, BUYER 4 in a STOPPED LAND, and BUYER 5 in one at WAR.
     */
    private static Exportcover full() {
        Exportcover x = new Exportcover();
        int[] homes = {0, 0, 0, 1, 2, 3, 4, 4, 4, 4, 4, 4};
        for (int i = 0; i < 5; i++) {
            x.land(i, 999999);
        }
        for (int home : homes) {
            x.buyer(home, 1);
        }
        for (int i = 0; i < 6; i++) {
            x.exporter();
        }
        x.policy(0, 90, 1, 30);
        x.policy(1, 50, -1, 0);
        for (int i = 2; i < 7; i++) {
            x.policy(2, 60, 0, 60);
        }
        x.policy(5, 95, 0, 60);
        for (int i = 0; i < 4; i++) {
            x.limit(0, i, 700);
        }
        x.limit(1, 0, 700);
        sail(x);
        return x;
    }

    private static void sail(Exportcover x) {
        x.ship(0, 0, 1000, 30, false);
        x.ship(0, 3, 1000, 30, false);
        x.ship(1, 0, 1000, 30, true);
        x.ship(0, 1, 500, 30, false);
        x.ship(0, 2, 300, 3000, false);
        x.ship(0, 2, 10, 30, false);
        x.earn(2, 10);
        x.pass(30);
        x.report(0);
        x.club(1, 50, 5);
        x.inspect(2);
        x.dispute(3);
        x.pass(180);
        x.claim(0);
        x.salvage(0, 15);
        while (x.books(6) < 48) {
            x.ship(0, 2, 5, 400, false);
        }
        x.notice(2, 5);
        x.stop(2, true);
        x.war(3, true);
        x.broke(1);
        x.bribe(5);
        x.knock();
        x.earn(2, 99999);
        x.earn(4, 7);
    }

    private void changesNothing() {
        Check check = said.chapter(8, "A method that throws an exception changes nothing.");
        Exportcover x = full();
        Exportcover twin = full();
        refuseIndexes(check, x);
        refuseLandsAndBuyers(check, x);
        refusePolicies(check, x);
        refuseShipments(check, x);
        refuseQuestions(check, x);
        dueSame(check, x, twin);
        goOn(x);
        goOn(twin);
        dueSame(check, x, twin);
        for (int i = 0; i < 9; i++) {
            x.pass(720);
            twin.pass(720);
            dueSame(check, x, twin);
        }
        Office.passTo(x, 7200);
        Office.passTo(twin, 7200);
        check.dueThrow("pass behind the last DAY", () -> x.pass(1), STATE);
        dueSame(check, x, twin);
    }

    private static void goOn(Exportcover x) {
        x.pass(150);
        x.pay(2, 20);
        x.judge(3, true);
        x.salvage(0, 1);
        x.stop(2, false);
        x.pay(4, 7);
        x.limit(2, 5, 9);
        x.link(1, 0, true);
        x.notice(2, 900);
        x.vote(4, 7, 6, 5);
    }

    private static void dueSame(Check check, Exportcover x, Exportcover twin) {
        check.due("the digest of one to which nothing was refused", x.digest(), twin.digest());
        check.due("isSound()", x.isSound(), true);
    }

    private static void refuseIndexes(Check check, Exportcover x) {
        int[] beside = {-1, 48};
        for (int none : beside) {
            check.dueThrow("vote", () -> x.vote(none, 0, 0, 0), INDEX);
            check.dueThrow("ceiling", () -> x.ceiling(none, 0), INDEX);
            check.dueThrow("close", () -> x.close(none, true), INDEX);
            check.dueThrow("stop", () -> x.stop(none, true), INDEX);
            check.dueThrow("war", () -> x.war(none, true), INDEX);
            check.dueThrow("buyer", () -> x.buyer(none, 0), INDEX);
            check.dueThrow("earn", () -> x.earn(none, 1), INDEX);
            check.dueThrow("broke", () -> x.broke(none), INDEX);
            check.dueThrow("link", () -> x.link(none, 0, true), INDEX);
            check.dueThrow("link", () -> x.link(0, none, false), INDEX);
            check.dueThrow("notice", () -> x.notice(none, 1), INDEX);
            check.dueThrow("policy", () -> x.policy(none, 50, 0, 0), INDEX);
            check.dueThrow("limit", () -> x.limit(none, 0, 1), INDEX);
            check.dueThrow("limit", () -> x.limit(0, none, 1), INDEX);
            check.dueThrow("cut", () -> x.cut(none, 0, 0), INDEX);
            check.dueThrow("cut", () -> x.cut(0, none, 0), INDEX);
            check.dueThrow("ship", () -> x.ship(none, 0, 1, 30, false), INDEX);
            check.dueThrow("ship", () -> x.ship(0, none, 1, 30, false), INDEX);
            check.dueThrow("pay", () -> x.pay(none, 1), INDEX);
            check.dueThrow("report", () -> x.report(none), INDEX);
            check.dueThrow("dispute", () -> x.dispute(none), INDEX);
            check.dueThrow("judge", () -> x.judge(none, false), INDEX);
            check.dueThrow("claim", () -> x.claim(none), INDEX);
            check.dueThrow("salvage", () -> x.salvage(none, 1), INDEX);
            check.dueThrow("club", () -> x.club(none, 50, 2), INDEX);
            check.dueThrow("inspect", () -> x.inspect(none), INDEX);
            check.dueThrow("bribe", () -> x.bribe(none), INDEX);
        }
    }

    private static void refuseLandsAndBuyers(Check check, Exportcover x) {
        check.dueThrow("market", () -> x.market(100), ARGUMENT);
        check.dueThrow("market", () -> x.market(0), STATE);
        check.dueThrow("land", () -> x.land(8, 0), ARGUMENT);
        check.dueThrow("land", () -> x.land(0, 0), STATE);
        check.dueThrow("vote", () -> x.vote(0, 7, 7, 8), ARGUMENT);
        check.dueThrow("ceiling", () -> x.ceiling(0, 1000000), ARGUMENT);
        check.dueThrow("buyer", () -> x.buyer(0, 6), ARGUMENT);
        check.dueThrow("buyer", () -> x.buyer(0, 0), STATE);
        check.dueThrow("earn", () -> x.earn(0, 100000), ARGUMENT);
        check.dueThrow("exporter", () -> x.exporter(), STATE);
        check.dueThrow("notice", () -> x.notice(2, 1000), ARGUMENT);
        check.dueThrow("pass", () -> x.pass(721), ARGUMENT);
    }

    private static void refusePolicies(Check check, Exportcover x) {
        check.dueThrow("policy, RIVAL 2", () -> x.policy(0, 50, 2, 0), INDEX);
        check.dueThrow("policy", () -> x.policy(0, 96, 0, 0), ARGUMENT);
        check.dueThrow("policy", () -> x.policy(0, 50, 0, 0), STATE);
        check.dueThrow("limit", () -> x.limit(0, 0, 100000), ARGUMENT);
        check.dueThrow("limit, ENDED by a FAKE", () -> x.limit(1, 0, 1), STATE);
        check.dueThrow("limit, ENDED by BRIBES", () -> x.limit(7, 0, 1), STATE);
        check.dueThrow("cut", () -> x.cut(0, 0, -1), ARGUMENT);
        check.dueThrow("ship", () -> x.ship(0, 0, 0, 30, false), ARGUMENT);
        check.dueThrow("ship", () -> x.ship(0, 0, 1, 29, false), ARGUMENT);
        check.dueThrow("ship", () -> x.ship(0, 0, 1, 30, false), STATE);
        check.dueThrow("pay", () -> x.pay(2, 100000), ARGUMENT);
        check.dueThrow("pay, BROKE", () -> x.pay(1, 1), STATE);
        check.dueThrow("pay, STOPPED", () -> x.pay(4, 1), STATE);
        check.dueThrow("pay, at WAR", () -> x.pay(5, 1), STATE);
        check.dueThrow("club", () -> x.club(0, 9, 1), ARGUMENT);
        check.dueThrow("club", () -> x.club(0, 50, 11), ARGUMENT);
    }

    private static void refuseShipments(Check check, Exportcover x) {
        int[] unreported = {0, 4, 5};
        for (int shipment : unreported) {
            check.dueThrow("report of " + shipment, () -> x.report(shipment), STATE);
        }
        int[] undisputed = {0, 1, 2, 3};
        for (int shipment : undisputed) {
            check.dueThrow("dispute of " + shipment, () -> x.dispute(shipment), STATE);
        }
        int[] unjudged = {0, 1, 2, 4, 5};
        for (int shipment : unjudged) {
            check.dueThrow("judge of " + shipment, () -> x.judge(shipment, false), STATE);
        }
        for (int i = 0; i < 6; i++) {
            int shipment = i;
            check.dueThrow("claim of " + shipment, () -> x.claim(shipment), STATE);
        }
        for (int i = 1; i < 6; i++) {
            int shipment = i;
            check.dueThrow("salvage of " + shipment, () -> x.salvage(shipment, 1), STATE);
        }
        check.dueThrow("salvage", () -> x.salvage(0, 0), ARGUMENT);
        check.dueThrow("inspect", () -> x.inspect(2), STATE);
    }

    private static void refuseQuestions(Check check, Exportcover x) {
        int[] beside = {-1, 48};
        for (int none : beside) {
            check.dueThrow("ofLand", () -> x.ofLand(none, 0), INDEX);
            check.dueThrow("ofLand", () -> x.ofLand(0, none), ARGUMENT);
            check.dueThrow("ofBuyer", () -> x.ofBuyer(none, 0), INDEX);
            check.dueThrow("ofBuyer", () -> x.ofBuyer(0, none), ARGUMENT);
            check.dueThrow("ofExporter", () -> x.ofExporter(none, 0), INDEX);
            check.dueThrow("ofExporter", () -> x.ofExporter(0, none), ARGUMENT);
            check.dueThrow("ofPolicy", () -> x.ofPolicy(none, 0), INDEX);
            check.dueThrow("ofPolicy", () -> x.ofPolicy(0, none), ARGUMENT);
            check.dueThrow("granted", () -> x.granted(none, 0, true), INDEX);
            check.dueThrow("granted", () -> x.granted(0, none, true), INDEX);
            check.dueThrow("ofShipment", () -> x.ofShipment(none, 0), INDEX);
            check.dueThrow("ofShipment", () -> x.ofShipment(0, none), ARGUMENT);
            check.dueThrow("part", () -> x.part(none, 0, true), INDEX);
            check.dueThrow("part", () -> x.part(0, none, true), ARGUMENT);
            check.dueThrow("books", () -> x.books(none), ARGUMENT);
            check.dueThrow("slip", () -> x.slip(none), INDEX);
            check.dueThrow("rate", () -> x.rate(none, 0, 30), INDEX);
            check.dueThrow("rate", () -> x.rate(0, none, 30), ARGUMENT);
            check.dueThrow("wouldInsure", () -> x.wouldInsure(none, 0, 1, 30, true), INDEX);
            check.dueThrow("wouldInsure", () -> x.wouldInsure(0, none, 1, 30, true), INDEX);
            check.dueThrow("wouldInsure", () -> x.wouldInsure(0, 0, 0, none, true), ARGUMENT);
            check.dueThrow("when", () -> x.when(none), INDEX);
        }
        check.dueThrow("probable", () -> x.probable(-1), ARGUMENT);
    }

    /** Of two exceptions that apply, or of all three. */
    private void namedFirst() {
        Check check = said.chapter(8, "If several exceptions apply, the one that is named first is thrown.");
        Exportcover x = full();
        check.dueThrow("market", () -> x.market(-1), ARGUMENT);
        check.dueThrow("land, CLASS", () -> x.land(-1, 0), ARGUMENT);
        check.dueThrow("land, CEILING", () -> x.land(0, -1), ARGUMENT);
        check.dueThrow("vote", () -> x.vote(5, 8, 8, 8), INDEX);
        check.dueThrow("ceiling", () -> x.ceiling(5, -1), INDEX);
        check.dueThrow("buyer of none, of GRADE 6", () -> x.buyer(5, 6), INDEX);
        check.dueThrow("buyer of none", () -> x.buyer(5, 0), INDEX);
        check.dueThrow("buyer of GRADE 6", () -> x.buyer(0, 6), ARGUMENT);
        check.dueThrow("earn", () -> x.earn(12, 0), INDEX);
        check.dueThrow("notice", () -> x.notice(5, 0), INDEX);
        check.dueThrow("policy of none, of COVER 0", () -> x.policy(6, 0, 0, 0), INDEX);
        check.dueThrow("policy of none", () -> x.policy(6, 50, 0, 0), INDEX);
        check.dueThrow("policy of RIVAL 2, of COVER 49", () -> x.policy(0, 49, 2, 0), INDEX);
        check.dueThrow("policy of RIVAL 2, of QUOTA 61", () -> x.policy(0, 50, 2, 61), INDEX);
        check.dueThrow("policy of RIVAL -2", () -> x.policy(0, 50, -2, 0), INDEX);
        check.dueThrow("policy of COVER 96", () -> x.policy(0, 96, 0, 0), ARGUMENT);
        check.dueThrow("policy of QUOTA 1 without a RIVAL", () -> x.policy(0, 50, -1, 1), ARGUMENT);
        check.dueThrow("limit of no POLICY, of -1", () -> x.limit(8, 0, -1), INDEX);
        check.dueThrow("limit of no BUYER, of -1", () -> x.limit(0, 12, -1), INDEX);
        check.dueThrow("limit of no BUYER, ENDED", () -> x.limit(1, 12, 0), INDEX);
        check.dueThrow("limit of no BUYER, of -1, ENDED", () -> x.limit(1, 12, -1), INDEX);
        check.dueThrow("limit of -1, ENDED", () -> x.limit(1, 0, -1), ARGUMENT);
        check.dueThrow("cut of no POLICY, to -1", () -> x.cut(8, 0, -1), INDEX);
        check.dueThrow("cut of no BUYER, to -1", () -> x.cut(0, 12, -1), INDEX);
        check.dueThrow("ship of no POLICY, of 0", () -> x.ship(8, 0, 0, 30, false), INDEX);
        check.dueThrow("ship of no BUYER, for 29", () -> x.ship(0, 12, 1, 29, false), INDEX);
        check.dueThrow("ship of no BUYER", () -> x.ship(0, 12, 1, 30, false), INDEX);
        check.dueThrow("ship of 0", () -> x.ship(0, 0, 0, 30, false), ARGUMENT);
        check.dueThrow("ship for 3601", () -> x.ship(0, 0, 1, 3601, false), ARGUMENT);
        check.dueThrow("pay of nobody, of 0", () -> x.pay(12, 0), INDEX);
        check.dueThrow("pay of 0, BROKE", () -> x.pay(1, 0), ARGUMENT);
        check.dueThrow("salvage of none, of 0", () -> x.salvage(48, 0), INDEX);
        check.dueThrow("salvage of 0, not CLAIMED", () -> x.salvage(1, 0), ARGUMENT);
        check.dueThrow("salvage of 100000, VOID", () -> x.salvage(2, 100000), ARGUMENT);
        check.dueThrow("club, hundredths", () -> x.club(5, 9, 1), INDEX);
        check.dueThrow("club, YEARS", () -> x.club(5, 10, 11), INDEX);
        namedFirstOfQuestions(check, x);
    }

    private static void namedFirstOfQuestions(Check check, Exportcover x) {
        check.dueThrow("ofLand", () -> x.ofLand(5, 9), INDEX);
        check.dueThrow("ofBuyer", () -> x.ofBuyer(12, 6), INDEX);
        check.dueThrow("ofExporter", () -> x.ofExporter(6, 6), INDEX);
        check.dueThrow("ofPolicy", () -> x.ofPolicy(8, 7), INDEX);
        check.dueThrow("ofShipment", () -> x.ofShipment(48, 17), INDEX);
        check.dueThrow("part", () -> x.part(48, 3, true), INDEX);
        check.dueThrow("rate, GRADE", () -> x.rate(5, 6, 30), INDEX);
        check.dueThrow("rate, TERM", () -> x.rate(5, 0, 29), INDEX);
        check.dueThrow("wouldInsure of no POLICY, of 0", () -> x.wouldInsure(8, 0, 0, 30, true), INDEX);
        check.dueThrow("wouldInsure of no BUYER, for 29", () -> x.wouldInsure(0, 12, 1, 29, true), INDEX);
    }

    private void namedFirstOnTheLastDay() {
        Check check = said.chapter(8, "the one that is named first is thrown.");
        Exportcover x = new Exportcover();
        Office.passTo(x, 7200);
        check.noState(x, "pass(1)", () -> x.pass(1));
        check.noState(x, "pass(720)", () -> x.pass(720));
        check.noArgumentBeside(x, "pass", 1, 720, days -> x.pass(days));
    }
}
