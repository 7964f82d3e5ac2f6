/** Promises 19 and 28: what buyers pay, by a call and as days begin. */
public final class PaymentsTest {
    private static final Check check = new Check();

    public static void main(String[] args) {
        byDueThenNumber();
        whatIsLeftOut();
        wrongInputs();
        ofWhatIsClaimed();
        asTheDayBegins();
        whoCanNotPay();
        daysGoBy();
        check.end();
    }

    private static void byDueThenNumber() {
        Exportcover x = Office.plain();
        x.exporter();
        x.policy(1, 50, -1, 0);
        x.ship(0, 0, 100, 90, false);
        x.ship(1, 0, 200, 60, false);
        x.ship(0, 0, 300, 90, false);
        x.ship(0, 0, 400, 60, false);
        int other = x.ofExporter(1, 0);
        int first = x.ofExporter(0, 0);
        x.earn(0, 950);
        check.due("pay", x.pay(0, 250), 250);
        dueLeft(x, 100, 0, 300, 350);
        check.due("the EXPORTER of 1", x.ofExporter(1, 0), other + 200);
        check.due("the EXPORTER of 3", x.ofExporter(0, 0), first + 50);
        check.due("CHEST", x.ofBuyer(0, 3), 700);
        check.due("pay", x.pay(0, 351), 351);
        dueLeft(x, 99, 0, 300, 0);
        check.due("pay as far as the CHEST goes", x.pay(0, 99999), 349);
        dueLeft(x, 0, 0, 50, 0);
        check.due("pay of nothing", x.pay(0, 5), 0);
        x.earn(0, 100);
        check.due("pay as far as there is LEFT", x.pay(0, 99999), 50);
        check.due("CHEST", x.ofBuyer(0, 3), 50);
        check.due("pay where nothing is LEFT", x.pay(0, 99999), 0);
        check.due("isSound()", x.isSound(), true);
    }

    private static void dueLeft(Exportcover x, int... due) {
        for (int i = 0; i < due.length; i++) {
            check.due("LEFT of " + i, x.ofShipment(i, 5), due[i]);
        }
    }

    private static void whatIsLeftOut() {
        Exportcover x = Office.plain();
        x.buyer(0, 0);
        x.ship(0, 0, 100, 30, true);
        x.ship(0, 1, 100, 30, false);
        x.ship(0, 0, 100, 30, false);
        x.pass(30);
        x.club(0, 50, 3);
        x.ship(0, 0, 100, 300, true);
        x.ship(0, 0, 100, 400, false);
        x.inspect(3);
        x.earn(0, 1000);
        check.due("pay", x.pay(0, 1000), 100);
        dueLeft(x, 100, 50, 50, 100, 0);
    }

    private static void wrongInputs() {
        Exportcover x = Office.plain();
        x.earn(0, 10);
        check.noIndex(x, "pay(1, 0)", () -> x.pay(1, 0));
        check.noIndex(x, "pay(-1, 1)", () -> x.pay(-1, 1));
        check.noArgument(x, "pay(0, 0)", () -> x.pay(0, 0));
        check.noArgument(x, "pay(0, 100000)", () -> x.pay(0, 100000));
        x.stop(0, true);
        check.noState(x, "pay from a STOPPED LAND", () -> x.pay(0, 1));
        check.noArgument(x, "pay of 0 from a STOPPED LAND", () -> x.pay(0, 0));
        x.stop(0, false);
        x.war(0, true);
        check.noState(x, "pay from a LAND at WAR", () -> x.pay(0, 1));
        x.war(0, false);
        check.due("pay", x.pay(0, 1), 0);
        x.broke(0);
        check.noState(x, "pay of one that is BROKE", () -> x.pay(0, 1));
    }

    private static void ofWhatIsClaimed() {
        Exportcover x = Office.claimed();
        int office = x.books(7);
        int rival = x.books(9);
        int exporter = x.ofExporter(0, 0);
        x.earn(0, 500);
        check.due("pay", x.pay(0, 100), 100);
        check.due("RECOVERED", x.ofShipment(0, 14), 100);
        check.due("LEFT", x.ofShipment(0, 5), 900);
        check.due("of the RIVAL", x.books(9) - rival, 18);
        check.due("of the OFFICE", x.books(7) - office, 44);
        check.due("of the EXPORTER", x.ofExporter(0, 0) - exporter, 38);
        check.due("RECOVERIES", x.books(13), 44);
        check.due("CHEST of the BUYER", x.ofBuyer(0, 3), 400);
    }

    private static void asTheDayBegins() {
        Exportcover x = Office.plain();
        x.ship(0, 0, 100, 40, false);
        x.ship(0, 0, 200, 30, false);
        x.ship(0, 0, 300, 30, true);
        x.ship(0, 0, 300, 30, false);
        x.ship(0, 0, 50, 31, false);
        x.earn(0, 220);
        int before = x.ofExporter(0, 0);
        x.pass(29);
        dueLeft(x, 100, 200, 300, 300, 50);
        x.pass(1);
        dueLeft(x, 100, 0, 300, 280, 50);
        check.due("the EXPORTER", x.ofExporter(0, 0), before + 220);
        x.earn(0, 60);
        x.pass(1);
        dueLeft(x, 100, 0, 300, 280, 0);
        check.due("just that one", x.ofBuyer(0, 3), 10);
        x.pass(9);
        dueLeft(x, 90, 0, 300, 280, 0);
        x.earn(0, 1000);
        x.pass(700);
        dueLeft(x, 90, 0, 300, 280, 0);
        check.due("isSound()", x.isSound(), true);
    }

    private static void whoCanNotPay() {
        Exportcover x = Office.plain();
        x.land(0, 0);
        x.buyer(0, 0);
        x.buyer(1, 0);
        for (int buyer = 0; buyer < 3; buyer++) {
            x.earn(buyer, 1000);
            x.ship(0, buyer, 100, 30, false);
            x.ship(0, buyer, 100, 60, false);
        }
        x.broke(0);
        x.stop(1, true);
        x.pass(30);
        dueLeft(x, 100, 100, 0, 100, 100, 100);
        x.stop(1, false);
        x.war(0, true);
        x.pass(30);
        dueLeft(x, 100, 100, 0, 100, 100, 0);

        Exportcover gone = Office.plain();
        gone.earn(0, 1000);
        gone.ship(0, 0, 100, 30, true);
        gone.inspect(0);
        gone.pass(30);
        check.due("a VOID one is not paid", gone.ofShipment(0, 5), 100);
        check.due("CHEST", gone.ofBuyer(0, 3), 1000);
    }

    private static void daysGoBy() {
        Exportcover x = new Exportcover();
        check.noArgument(x, "pass(0)", () -> x.pass(0));
        check.noArgument(x, "pass(-1)", () -> x.pass(-1));
        check.noArgument(x, "pass(721)", () -> x.pass(721));
        check.due("pass", x.pass(359), 359);
        check.due("YEAR", x.books(1), 0);
        check.due("pass", x.pass(1), 360);
        check.due("YEAR", x.books(1), 1);
        for (int i = 0; i < 9; i++) {
            x.pass(720);
        }
        check.due("DAY", x.books(0), 6840);
        check.noState(x, "pass(361)", () -> x.pass(361));
        check.noArgument(x, "pass(721) late", () -> x.pass(721));
        check.due("pass", x.pass(360), 7200);
        check.due("YEAR", x.books(1), 20);
        check.noState(x, "pass(1)", () -> x.pass(1));
    }
}
