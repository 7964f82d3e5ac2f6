/** Small offices to begin a test with. */
final class Office {
    private Office() {
    }

    /** A LAND of a CLASS, a BUYER of GRADE 0, an EXPORTER, a POLICY (COVER 90, RIVAL 1, QUOTA 30), a LIMIT of 12000. */
    static Exportcover ofClass(int grade) {
        Exportcover x = new Exportcover();
        x.land(grade, 999999);
        x.buyer(0, 0);
        x.exporter();
        x.policy(0, 90, 1, 30);
        x.limit(0, 0, 12000);
        return x;
    }

    static Exportcover plain() {
        return ofClass(0);
    }

    /** Likewise, but the POLICY has these terms, and SHIPMENT 0 is CLAIMED on DAY 210: LOSS is its AMOUNT. */
    static Exportcover claimed(int cover, int rival, int quota, int limit, int amount) {
        Exportcover x = new Exportcover();
        x.land(0, 999999);
        x.buyer(0, 0);
        x.exporter();
        x.policy(0, cover, rival, quota);
        x.limit(0, 0, limit);
        x.ship(0, 0, amount, 30, false);
        x.pass(30);
        x.report(0);
        x.pass(180);
        x.claim(0);
        return x;
    }

    /** SHIPMENT 0 has an AMOUNT of 1000, of which 700 are INSURED: LOSS 1000, GROSS 630, SHARE 189, on DAY 210. */
    static Exportcover claimed() {
        return claimed(90, 1, 30, 700, 1000);
    }

    /** A SHIPMENT 0 of so much, whose TERM is 30, on the DAY on which it is DUE. */
    static Exportcover due(int amount) {
        Exportcover x = plain();
        x.ship(0, 0, amount, 30, false);
        x.pass(30);
        return x;
    }

    /** SHIPMENT 0 of so much is REPORTED on the DAY on which it is DUE, and that was so many DAYS ago. */
    static Exportcover reported(int amount, int daysAgo) {
        Exportcover x = due(amount);
        x.report(0);
        x.pass(daysAgo);
        return x;
    }

    /** FAKE SHIPMENT 0: LOSS 1000, GROSS 630, SHARE 189, CLAIMED on DAY 210. */
    static Exportcover claimedFake() {
        Exportcover x = plain();
        x.limit(0, 0, 700);
        x.ship(0, 0, 1000, 30, true);
        x.pass(30);
        x.report(0);
        x.pass(180);
        x.claim(0);
        return x;
    }

    /** All CHESTS, the same ones in the same order. */
    static int sumOfChests(Exportcover x) {
        int sum = x.books(7) + x.books(8) + x.books(9) + x.books(10);
        for (int i = 0; i < x.books(3); i++) {
            sum += x.ofBuyer(i, 3);
        }
        for (int i = 0; i < x.books(4); i++) {
            sum += x.ofExporter(i, 0);
        }
        return sum;
    }

    /** Pass knows at most 720 DAYS at once. */
    static void passTo(Exportcover x, int day) {
        while (x.books(0) < day) {
            x.pass(Math.min(720, day - x.books(0)));
        }
    }
}
