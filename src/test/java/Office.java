/** Small offices to begin a test with. */
final class Office {
    private Office() {
    }

    /** A LAND of a CLASS, a BUYER of GRADE 0, an EXPORTER, a POLICY (COVER 90, RIVAL 1, QUOTA 30), a LIMIT of 12000. */
    static Exportcover ofClass(int grade) {
        Exportcover x = new Exportcover();
        x.land(grade, 999999);
        x.buyer(0, 0);
        x.exporter();
        x.policy(0, 90, 1, 30);
        x.limit(0, 0, 12000);
        return x;
    }

    static Exportcover plain() {
        return ofClass(0);
    }

    /** SHIPMENT 0 has an AMOUNT of 1000, of which 700 are INSURED: LOSS 1000, GROSS 630, SHARE 189, on DAY 210. */
    static Exportcover claimed() {
        Exportcover x = plain();
        x.limit(0, 0, 700);
        x.ship(0, 0, 1000, 30, false);
        x.pass(30);
        x.report(0);
        x.pass(180);
        x.claim(0);
        return x;
    }
}
