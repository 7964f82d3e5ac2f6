/** Promises 9 to 13, 31 and 32: buyers, what they earn, who goes broke, exporters and links. */
public final class BuyersTest {
    private static final Check check = new Check();

    public static void main(String[] args) {
        buyers();
        earning();
        goingBroke();
        exporters();
        links();
        whatIsAskedOfBuyers();
        whatIsAskedOfExporters();
        check.end();
    }

    private static void buyers() {
        Exportcover x = new Exportcover();
        x.land(0, 0);
        x.land(0, 0);
        check.noIndex(x, "buyer(2, 6)", () -> x.buyer(2, 6));
        check.noIndex(x, "buyer(-1, 0)", () -> x.buyer(-1, 0));
        check.noArgument(x, "buyer(0, -1)", () -> x.buyer(0, -1));
        check.noArgument(x, "buyer(0, 6)", () -> x.buyer(0, 6));
        for (int i = 0; i < 12; i++) {
            check.due("buyer", x.buyer(i % 2, i % 6), i);
        }
        for (int i = 0; i < 12; i++) {
            int[] due = {i % 2, i % 6, -1, 0, 1, 0};
            for (int what = 0; what < due.length; what++) {
                check.due("ofBuyer(" + i + ", " + what + ")", x.ofBuyer(i, what), due[what]);
            }
        }
        check.noState(x, "a 13th BUYER", () -> x.buyer(0, 0));
        check.noArgument(x, "a 13th BUYER of GRADE 6", () -> x.buyer(0, 6));
        check.noIndex(x, "a 13th BUYER nowhere", () -> x.buyer(2, 0));
        check.due("BUYERS", x.books(3), 12);
    }

    private static void earning() {
        Exportcover x = new Exportcover();
        x.land(0, 0);
        x.buyer(0, 0);
        x.buyer(0, 0);
        check.due("earn", x.earn(0, 1), 1);
        check.due("earn", x.earn(0, 99999), 100000);
        check.due("earn", x.earn(1, 7), 7);
        check.due("the WORLD", x.books(10), -100007);
        check.due("CHEST", x.ofBuyer(0, 3), 100000);
        check.noIndex(x, "earn(2, 0)", () -> x.earn(2, 0));
        check.noIndex(x, "earn(-1, 1)", () -> x.earn(-1, 1));
        check.noArgument(x, "earn(0, 0)", () -> x.earn(0, 0));
        check.noArgument(x, "earn(0, 100000)", () -> x.earn(0, 100000));
        x.broke(0);
        x.war(0, true);
        check.due("earn of one that is BROKE, at WAR", x.earn(0, 5), 100005);
    }

    private static void goingBroke() {
        Exportcover x = new Exportcover();
        x.land(0, 0);
        x.buyer(0, 0);
        x.buyer(0, 0);
        x.earn(0, 30);
        x.pass(5);
        check.due("broke", x.broke(0), false);
        check.due("the DAY", x.ofBuyer(0, 2), 5);
        check.due("CAN PAY", x.ofBuyer(0, 4), 0);
        check.due("CHEST", x.ofBuyer(0, 3), 30);
        check.due("the other one", x.ofBuyer(1, 2), -1);
        check.due("the other one CAN PAY", x.ofBuyer(1, 4), 1);
        x.pass(5);
        check.due("broke again", x.broke(0), true);
        check.due("the DAY stays", x.ofBuyer(0, 2), 5);
        check.noIndex(x, "broke(2)", () -> x.broke(2));
        check.noIndex(x, "broke(-1)", () -> x.broke(-1));
        Exportcover y = new Exportcover();
        y.land(0, 0);
        y.buyer(0, 0);
        y.broke(0);
        check.due("BROKE on DAY 0", y.ofBuyer(0, 2), 0);
        check.due("was BROKE on DAY 0", y.broke(0), true);
    }

    private static void exporters() {
        Exportcover x = new Exportcover();
        for (int i = 0; i < 6; i++) {
            check.due("exporter", x.exporter(), i);
        }
        for (int what = 0; what < 6; what++) {
            check.due("ofExporter(5, " + what + ")", x.ofExporter(5, what), 0);
        }
        check.noState(x, "a seventh EXPORTER", () -> x.exporter());
        check.due("EXPORTERS", x.books(4), 6);
    }

    private static void links() {
        Exportcover x = new Exportcover();
        x.land(0, 0);
        for (int i = 0; i < 12; i++) {
            x.buyer(0, 0);
        }
        x.exporter();
        x.exporter();
        check.due("link", x.link(0, 3, true), 8);
        check.due("link", x.link(0, 3, true), 8);
        check.due("link", x.link(0, 0, true), 9);
        check.due("link", x.link(0, 11, false), 2048);
        check.due("link", x.link(0, 3, false), 2056);
        check.due("OWNS", x.ofExporter(0, 1), 9);
        check.due("SELL", x.ofExporter(0, 2), 2056);
        check.due("another one OWNS", x.ofExporter(1, 1), 0);
        check.due("SELL to another one", x.ofExporter(1, 2), 0);
        check.noIndex(x, "link(2, 0, true)", () -> x.link(2, 0, true));
        check.noIndex(x, "link(-1, 0, true)", () -> x.link(-1, 0, true));
        check.noIndex(x, "link(0, 12, true)", () -> x.link(0, 12, true));
        check.noIndex(x, "link(0, -1, false)", () -> x.link(0, -1, false));
    }

    private static void whatIsAskedOfBuyers() {
        Exportcover x = Office.plain();
        x.buyer(0, 1);
        x.ship(0, 0, 100, 30, false);
        x.ship(0, 0, 200, 30, true);
        x.ship(0, 0, 400, 40, false);
        x.ship(0, 1, 800, 30, false);
        check.due("LEFT of 0", x.ofBuyer(0, 5), 500);
        check.due("LEFT of 1", x.ofBuyer(1, 5), 800);
        x.inspect(1);
        check.due("LEFT of 0", x.ofBuyer(0, 5), 500);
        x.pass(30);
        x.club(0, 50, 2);
        check.due("LEFT of 0, with what is PUT OFF", x.ofBuyer(0, 5), 450);
        check.noIndex(x, "ofBuyer(2, 6)", () -> x.ofBuyer(2, 6));
        check.noIndex(x, "ofBuyer(-1, 0)", () -> x.ofBuyer(-1, 0));
        check.noArgument(x, "ofBuyer(0, -1)", () -> x.ofBuyer(0, -1));
        check.noArgument(x, "ofBuyer(0, 6)", () -> x.ofBuyer(0, 6));
    }

    private static void whatIsAskedOfExporters() {
        Exportcover x = Office.plain();
        x.exporter();
        x.policy(0, 50, -1, 0);
        x.policy(1, 50, -1, 0);
        x.ship(0, 0, 10000, 30, false);
        x.ship(0, 0, 10, 30, true);
        x.ship(1, 0, 10, 30, false);
        x.ship(2, 0, 10, 30, false);
        check.due("CHEST", x.ofExporter(0, 0), -10);
        check.due("CHEST of the other one", x.ofExporter(1, 0), 0);
        check.due("POLICIES", x.ofExporter(0, 3), 2);
        check.due("SHIPMENTS", x.ofExporter(0, 4), 3);
        check.due("SHIPMENTS of the other one", x.ofExporter(1, 4), 1);
        x.inspect(1);
        check.due("POLICIES, one ENDED", x.ofExporter(0, 3), 1);
        check.due("SHIPMENTS, one VOID", x.ofExporter(0, 4), 3);
        check.due("in a CIRCLE", x.ofExporter(0, 5), 0);
        x.link(0, 0, true);
        check.due("in a CIRCLE", x.ofExporter(0, 5), 1);
        check.due("the other one in a CIRCLE", x.ofExporter(1, 5), 0);
        check.noIndex(x, "ofExporter(2, 6)", () -> x.ofExporter(2, 6));
        check.noIndex(x, "ofExporter(-1, 0)", () -> x.ofExporter(-1, 0));
        check.noArgument(x, "ofExporter(0, -1)", () -> x.ofExporter(0, -1));
        check.noArgument(x, "ofExporter(0, 6)", () -> x.ofExporter(0, 6));
    }
}
