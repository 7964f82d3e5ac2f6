/** Promises 18, 35 and 40: shipments, their terms, and what would be insured. */
public final class ShipmentsTest {
    private static final Check check = new Check();

    public static void main(String[] args) {
        aShipment();
        wrongInputs();
        reasonsInTheirOrder();
        coverStopped();
        longestTerm();
        roomAndSpace();
        premiums();
        termsAreKept();
        atMost48();
        whatIsAsked();
        check.end();
    }

    private static void aShipment() {
        Exportcover x = Office.plain();
        x.pass(10);
        check.due("ship", x.ship(0, 0, 5000, 200, false), 0);
        int[] due = {0, 0, 5000, 10, 210, 5000, 5000, 0, 10, 5, 0, 0, 0, 0, 0, 0, 0};
        for (int what = 0; what < due.length; what++) {
            check.due("ofShipment(0, " + what + ")", x.ofShipment(0, what), due[what]);
        }
        check.due("ship", x.ship(0, 0, 99999, 3600, true), 1);
        check.due("FAKE", x.ofShipment(1, 11), 32);
        check.due("DUE", x.ofShipment(1, 4), 3610);
        check.due("INSURED", x.ofShipment(1, 6), 7000);
        check.due("REASON", x.ofShipment(1, 7), 7);
        check.due("SHIPMENTS", x.books(6), 2);
    }

    private static void wrongInputs() {
        Exportcover x = Office.plain();
        check.noIndex(x, "ship(1, ..)", () -> x.ship(1, 0, 0, 29, false));
        check.noIndex(x, "ship(-1, ..)", () -> x.ship(-1, 0, 1, 30, false));
        check.noIndex(x, "ship(0, 1, ..)", () -> x.ship(0, 1, 0, 29, false));
        check.noIndex(x, "ship(0, -1, ..)", () -> x.ship(0, -1, 1, 30, false));
        check.noArgument(x, "ship of 0", () -> x.ship(0, 0, 0, 30, false));
        check.noArgument(x, "ship of 100000", () -> x.ship(0, 0, 100000, 30, false));
        check.noArgument(x, "ship for 29", () -> x.ship(0, 0, 1, 29, false));
        check.noArgument(x, "ship for 3601", () -> x.ship(0, 0, 1, 3601, false));
        check.noIndex(x, "wouldInsure(1, ..)", () -> x.wouldInsure(1, 0, 0, 29, false));
        check.noIndex(x, "wouldInsure(-1, ..)", () -> x.wouldInsure(-1, 0, 1, 30, false));
        check.noIndex(x, "wouldInsure(0, 1, ..)", () -> x.wouldInsure(0, 1, 0, 29, false));
        check.noIndex(x, "wouldInsure(0, -1, ..)", () -> x.wouldInsure(0, -1, 1, 30, true));
        check.noArgument(x, "wouldInsure of 0", () -> x.wouldInsure(0, 0, 0, 30, false));
        check.noArgument(x, "wouldInsure of 100000", () -> x.wouldInsure(0, 0, 100000, 30, true));
        check.noArgument(x, "wouldInsure for 29", () -> x.wouldInsure(0, 0, 1, 29, false));
        check.noArgument(x, "wouldInsure for 3601", () -> x.wouldInsure(0, 0, 1, 3601, true));
        x.ship(0, 0, 99999, 30, false);
        x.ship(0, 0, 1, 3600, false);
        check.due("SHIPMENTS", x.books(6), 2);
    }

    private static void dueInsured(Exportcover x, int amount, int term, int insured, int reason) {
        long before = x.digest();
        check.due("wouldInsure", x.wouldInsure(0, 0, amount, term, false), insured);
        check.due("its REASON", x.wouldInsure(0, 0, amount, term, true), reason);
        check.due("the digest", x.digest(), before);
    }

    /** All that holds against a SHIPMENT, then one by one less of it. */
    private static void reasonsInTheirOrder() {
        Exportcover x = Office.ofClass(7);
        x.ship(0, 0, 50, 30, true);
        x.pass(91);
        x.close(0, true);
        x.war(0, true);
        x.broke(0);
        x.ceiling(0, 0);
        dueInsured(x, 100, 361, 0, 2);
        x.close(0, false);
        dueInsured(x, 100, 361, 0, 3);
        x.war(0, false);
        x.stop(0, true);
        dueInsured(x, 100, 361, 0, 3);
        x.stop(0, false);
        dueInsured(x, 100, 361, 0, 4);
        x.close(0, true);
        x.bribe(0);
        dueInsured(x, 100, 361, 0, 1);
        int sailed = x.ship(0, 0, 100, 361, false);
        check.due("REASON", x.ofShipment(sailed, 7), 1);
        check.due("INSURED", x.ofShipment(sailed, 6), 0);
        check.due("PREMIUM", x.ofShipment(sailed, 9), 0);
        check.due("RATE", x.ofShipment(sailed, 8), 8 + 147 + 8 * 3);

        Exportcover y = Office.ofClass(7);
        y.ship(0, 0, 50, 30, true);
        y.pass(91);
        y.ceiling(0, 0);
        dueInsured(y, 100, 361, 0, 5);
        y.report(0);
        dueInsured(y, 100, 361, 0, 6);
        dueInsured(y, 100, 360, 0, 8);
        y.limit(0, 0, 0);
        dueInsured(y, 100, 360, 0, 7);
    }

    private static void coverStopped() {
        Exportcover x = Office.plain();
        x.buyer(0, 0);
        x.policy(0, 90, -1, 0);
        x.limit(0, 1, 1000);
        x.limit(1, 0, 1000);
        x.ship(0, 0, 50, 30, false);
        x.pass(90);
        dueInsured(x, 100, 30, 100, 0);
        x.pass(1);
        dueInsured(x, 100, 30, 0, 5);
        check.due("another BUYER", x.wouldInsure(0, 1, 100, 30, true), 0);
        check.due("another POLICY", x.wouldInsure(1, 0, 100, 30, true), 0);
        x.club(0, 100, 1);
        dueInsured(x, 100, 30, 0, 5);
        x.earn(0, 100);
        x.report(0);
        dueInsured(x, 100, 30, 100, 0);

        Exportcover paid = Office.plain();
        paid.ship(0, 0, 50, 30, false);
        paid.pass(91);
        paid.earn(0, 100);
        paid.pay(0, 49);
        dueInsured(paid, 100, 30, 0, 5);
        paid.pay(0, 1);
        dueInsured(paid, 100, 30, 100, 0);

        Exportcover claimed = Office.plain();
        claimed.ship(0, 0, 50, 30, false);
        claimed.pass(210);
        dueInsured(claimed, 100, 30, 0, 5);
        claimed.report(0);
        claimed.claim(0);
        dueInsured(claimed, 100, 30, 100, 0);
    }

    private static void longestTerm() {
        Exportcover x = Office.ofClass(3);
        dueInsured(x, 100, 1800, 100, 0);
        dueInsured(x, 100, 1801, 0, 6);
        x.notice(0, 999);
        dueInsured(x, 100, 3600, 100, 0);
        x.pass(90);
        dueInsured(x, 100, 3600, 0, 6);
        x.vote(0, 2, 2, 7);
        dueInsured(x, 100, 3600, 100, 0);
    }

    private static void roomAndSpace() {
        Exportcover x = Office.plain();
        x.limit(0, 0, 1000);
        x.ceiling(0, 1000);
        dueInsured(x, 1000, 30, 1000, 0);
        dueInsured(x, 1001, 30, 1000, 7);
        x.ceiling(0, 999);
        dueInsured(x, 999, 30, 999, 0);
        dueInsured(x, 1000, 30, 999, 8);
        x.ship(0, 0, 600, 30, false);
        dueInsured(x, 399, 30, 399, 0);
        dueInsured(x, 400, 30, 399, 8);
        x.ceiling(0, 100);
        x.limit(0, 0, 500);
        dueInsured(x, 1, 30, 0, 7);
        x.limit(0, 0, 601);
        dueInsured(x, 1, 30, 0, 8);

        Exportcover two = Office.plain();
        two.buyer(0, 0);
        two.exporter();
        two.policy(1, 50, -1, 0);
        two.limit(0, 1, 5000);
        two.limit(1, 0, 5000);
        two.limit(0, 0, 5000);
        two.ceiling(0, 6000);
        two.ship(0, 1, 2000, 30, false);
        two.ship(1, 0, 3000, 30, false);
        dueInsured(two, 5000, 30, 1000, 8);
        two.land(0, 4000);
        two.buyer(1, 0);
        two.limit(0, 2, 9000);
        check.due("another LAND", two.wouldInsure(0, 2, 5000, 30, false), 4000);
        two.dispute(0);
        dueInsured(two, 5000, 30, 1000, 8);
        two.judge(0, false);
        dueInsured(two, 5000, 30, 3000, 8);
        two.earn(0, 1000);
        two.pay(0, 1000);
        dueInsured(two, 5000, 30, 4000, 8);
        check.due("AT RISK is LEFT", two.granted(1, 0, false), 2000);

        Exportcover part = Office.plain();
        part.limit(0, 0, 400);
        part.ship(0, 0, 1000, 30, false);
        part.earn(0, 700);
        part.pay(0, 600);
        check.due("AT RISK is INSURED", part.granted(0, 0, false), 400);
        part.pay(0, 1);
        check.due("AT RISK is LEFT", part.granted(0, 0, false), 399);
    }

    private static void premiums() {
        Exportcover x = Office.plain();
        int[][] rows = {{1, 1}, {1111, 1}, {2222, 1}, {2223, 2}, {6445, 5}};
        int sum = 0;
        int passedOn = 0;
        for (int i = 0; i < rows.length; i++) {
            x.ship(0, 0, rows[i][0], 30, false);
            check.due("PREMIUM of " + rows[i][0], x.ofShipment(i, 9), rows[i][1]);
            sum += rows[i][1];
            passedOn += rows[i][1] * 30 / 100;
            check.due("PREMIUMS", x.books(11), sum - passedOn);
            check.due("CHEST of the OFFICE", x.books(7), sum - passedOn);
            check.due("CHEST of RIVAL 0", x.books(8), 0);
            check.due("CHEST of RIVAL 1", x.books(9), passedOn);
            check.due("CHEST of the EXPORTER", x.ofExporter(0, 0), -sum);
        }
        x.ship(0, 0, 100, 30, false);
        check.due("no ROOM", x.ofShipment(5, 6), 0);
        check.due("no PREMIUM", x.ofShipment(5, 9), 0);

        Exportcover zero = Office.ofClass(7);
        zero.policy(0, 95, 0, 60);
        zero.policy(0, 95, -1, 0);
        zero.limit(1, 0, 12000);
        zero.limit(2, 0, 12000);
        zero.ship(1, 0, 12000, 360, false);
        check.due("PREMIUM", zero.ofShipment(0, 9), 12000 * 171 / 10000);
        check.due("CHEST of RIVAL 0", zero.books(8), 205 * 60 / 100);
        check.due("PREMIUMS", zero.books(11), 205 - 123);
        zero.ship(2, 0, 12000, 30, true);
        check.due("PREMIUM", zero.ofShipment(1, 9), 12000 * 163 / 10000);
        check.due("CHEST of RIVAL 0", zero.books(8), 123);
        check.due("CHEST of RIVAL 1", zero.books(9), 0);
        check.due("PREMIUMS", zero.books(11), 82 + 195);
        check.due("isSound()", zero.isSound(), true);
    }

    private static void termsAreKept() {
        Exportcover x = Office.ofClass(3);
        x.notice(0, 20);
        x.ship(0, 0, 5000, 360, false);
        x.vote(0, 7, 7, 7);
        x.notice(0, 5);
        x.ceiling(0, 0);
        x.close(0, true);
        x.pass(10);
        check.due("RATE", x.ofShipment(0, 8), 20);
        check.due("PREMIUM", x.ofShipment(0, 9), 10);
        check.due("INSURED", x.ofShipment(0, 6), 5000);
        check.due("REASON", x.ofShipment(0, 7), 0);
        check.due("SAILED", x.ofShipment(0, 3), 0);
    }

    private static void atMost48() {
        Exportcover x = Office.plain();
        for (int i = 0; i < 48; i++) {
            check.due("ship", x.ship(0, 0, 200, 30, false), i);
        }
        check.noState(x, "a 49th SHIPMENT", () -> x.ship(0, 0, 200, 30, false));
        check.noArgument(x, "a 49th SHIPMENT of 0", () -> x.ship(0, 0, 0, 30, false));
        dueInsured(x, 3000, 30, 2400, 7);
    }

    private static void whatIsAsked() {
        Exportcover x = Office.plain();
        x.buyer(0, 0);
        x.policy(0, 50, -1, 0);
        x.ship(1, 0, 10, 30, false);
        x.ship(0, 1, 10, 30, true);
        check.due("POLICY", x.ofShipment(0, 0), 1);
        check.due("BUYER", x.ofShipment(0, 1), 0);
        check.due("POLICY", x.ofShipment(1, 0), 0);
        check.due("BUYER", x.ofShipment(1, 1), 1);
        x.pass(30);
        x.report(0);
        check.due("REPORTED", x.ofShipment(0, 11), 1);
        x.dispute(0);
        check.due("in DISPUTE", x.ofShipment(0, 11), 3);
        x.dispute(1);
        x.inspect(1);
        x.report(1);
        check.due("REPORTED, in DISPUTE, VOID, FAKE", x.ofShipment(1, 11), 1 + 2 + 16 + 32);
        x.club(0, 50, 1);
        check.due("PUT OFF", x.ofShipment(0, 11), 1 + 2 + 8);
        check.due("FORGIVEN", x.ofShipment(0, 15), 5);
        check.due("OWED", x.ofShipment(0, 16), 5);
        check.due("FORGIVEN of the FAKE", x.ofShipment(1, 15), 0);
        check.noIndex(x, "ofShipment(2, 17)", () -> x.ofShipment(2, 17));
        check.noIndex(x, "ofShipment(-1, 0)", () -> x.ofShipment(-1, 0));
        check.noArgument(x, "ofShipment(0, -1)", () -> x.ofShipment(0, -1));
        check.noArgument(x, "ofShipment(0, 17)", () -> x.ofShipment(0, 17));
    }
}
