/** Promises 26, 27 and 42: fakes, bribes and circles. */
public final class FakesTest {
    private static final Check check = new Check();

    public static void main(String[] args) {
        inspecting();
        payingBack();
        bribes();
        ownCircle();
        longCircle();
        besideACircle();
        check.end();
    }

    private static void inspecting() {
        Exportcover x = Office.plain();
        x.ship(0, 0, 1000, 30, false);
        x.ship(0, 0, 1000, 30, true);
        check.due("inspect of a true one", x.inspect(0), false);
        check.due("inspect of a true one again", x.inspect(0), false);
        check.due("not ENDED", x.ofPolicy(0, 4), 0);
        check.due("not VOID", x.ofShipment(0, 11), 0);
        long money = x.books(7) * 100000L + x.ofExporter(0, 0);
        check.due("inspect of a FAKE one", x.inspect(1), true);
        check.due("VOID", x.ofShipment(1, 11), 48);
        check.due("ENDED", x.ofPolicy(0, 4), 1);
        check.due("VOID ones", x.books(17), 1);
        check.due("no money goes", x.books(7) * 100000L + x.ofExporter(0, 0), money);
        check.due("AT RISK", x.granted(0, 0, false), 1000);
        check.noState(x, "inspect of a VOID one", () -> x.inspect(1));
        check.noIndex(x, "inspect(2)", () -> x.inspect(2));
        check.noIndex(x, "inspect(-1)", () -> x.inspect(-1));
        check.due("isSound()", x.isSound(), true);
    }

    private static void payingBack() {
        Exportcover x = Office.plain();
        x.limit(0, 0, 700);
        x.ship(0, 0, 1000, 30, true);
        x.pass(210);
        x.report(0);
        int office = x.books(7);
        int rival = x.books(9);
        int exporter = x.ofExporter(0, 0);
        x.claim(0);
        x.salvage(0, 100);
        check.due("inspect", x.inspect(0), true);
        check.due("CHEST of the OFFICE", x.books(7), office + 44);
        check.due("CHEST of the RIVAL", x.books(9), rival + 18);
        check.due("CHEST of the EXPORTER", x.ofExporter(0, 0), exporter + 38);
        check.due("CLAIMS", x.books(12), 0);
        check.due("RECOVERIES", x.books(13), 44);
        check.due("BALANCE", x.books(14), x.books(7));
        check.due("CLAIMED, VOID", x.ofShipment(0, 11), 1 + 4 + 16 + 32);
        check.due("CLAIMED ones", x.books(15), 1);
        check.due("GROSS stays", x.ofShipment(0, 13), 630);
        check.due("PART stays", x.part(0, 2, false), 189);
        check.due("isSound()", x.isSound(), true);
    }

    private static void bribes() {
        Exportcover x = Office.plain();
        x.exporter();
        x.policy(1, 50, -1, 0);
        x.policy(0, 50, -1, 0);
        x.policy(0, 50, -1, 0);
        x.ship(3, 0, 10, 30, true);
        x.ship(0, 0, 10, 30, false);
        x.inspect(0);
        check.due("bribe", x.bribe(0), 2);
        int[] due = {1, 0, 1, 1};
        for (int i = 0; i < due.length; i++) {
            check.due("ENDED " + i, x.ofPolicy(i, 4), due[i]);
        }
        check.due("bribe again", x.bribe(0), 0);
        check.due("SHIPMENTS stay", x.ofShipment(1, 6), 10);
        check.due("AT RISK stays", x.granted(0, 0, false), 10);
        check.due("bribe of the other one", x.bribe(1), 1);
        check.noIndex(x, "bribe(2)", () -> x.bribe(2));
        check.noIndex(x, "bribe(-1)", () -> x.bribe(-1));
    }

    private static void ownCircle() {
        Exportcover x = Office.plain();
        x.link(0, 0, true);
        check.due("no SHIPMENT, no CIRCLE", x.circles(), 0);
        x.ship(0, 0, 10, 30, true);
        check.due("a CIRCLE", x.circles(), 1);
        check.due("SUSPECT", x.books(18), 1);
        x.inspect(0);
        check.due("a CIRCLE with a VOID one", x.circles(), 1);
        check.due("SUSPECT, VOID", x.books(18), 1);
        Exportcover y = Office.plain();
        y.ship(0, 0, 10, 30, false);
        check.due("no link, no CIRCLE", y.circles(), 0);
        y.link(0, 0, false);
        check.due("a CIRCLE of a seller", y.circles(), 1);
    }

    /** EXPORTER 0 to BUYER 0 to EXPORTER 1 .. to BUYER 5 to EXPORTER 0, told against the order of numbers. */
    private static void longCircle() {
        for (int turn = 0; turn < 2; turn++) {
            Exportcover x = new Exportcover();
            x.land(0, 0);
            for (int i = 0; i < 6; i++) {
                x.buyer(0, 0);
                x.exporter();
                x.policy(i, 50, -1, 0);
            }
            for (int i = 0; i < 6; i++) {
                x.ship(i, i, 10, 30, false);
            }
            for (int i = 0; i < 6; i++) {
                check.due("not yet a CIRCLE", x.circles(), 0);
                check.due("not yet SUSPECT", x.books(18), 0);
                x.link(turn == 0 ? (i + 1) % 6 : (i + 5) % 6, i, i % 2 == 0);
            }
            check.due("a CIRCLE of all", x.circles(), 63);
            check.due("all are SUSPECT", x.books(18), 6);
            for (int i = 0; i < 6; i++) {
                check.due("in a CIRCLE", x.ofExporter(i, 5), 1);
            }
        }
    }

    private static void besideACircle() {
        Exportcover x = new Exportcover();
        x.land(0, 0);
        for (int i = 0; i < 4; i++) {
            x.buyer(0, 0);
        }
        for (int i = 0; i < 4; i++) {
            x.exporter();
            x.policy(i, 50, -1, 0);
        }
        x.ship(1, 1, 10, 30, false);
        x.ship(2, 2, 10, 30, false);
        x.link(2, 1, false);
        x.link(1, 2, true);
        check.due("a CIRCLE of 1 and 2", x.circles(), 6);
        check.due("SUSPECT", x.books(18), 2);
        x.ship(0, 1, 10, 30, false);
        check.due("0 leads into it", x.circles(), 6);
        check.due("SUSPECT", x.books(18), 2);
        x.ship(1, 3, 10, 30, false);
        x.link(3, 3, false);
        check.due("3 is led to from it", x.circles(), 6);
        check.due("SUSPECT", x.books(18), 2);
        x.ship(1, 2, 10, 30, false);
        check.due("another way in it", x.books(18), 3);
        x.ship(3, 0, 10, 30, false);
        x.link(0, 0, true);
        check.due("a CIRCLE of all", x.circles(), 15);
        check.due("SUSPECT", x.books(18), 6);
    }
}
