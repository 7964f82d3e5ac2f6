/** The edges of chapter 7, and of promises 26, 27 and 42: circles, fakes and bribes. */
final class FakeEdges {
    private final Sentences said;

    FakeEdges(Sentences said) {
        this.said = said;
    }

    void run() {
        stepsOfGoods();
        goodsOfAnyShipment();
        backToItself();
        suspects();
        inspected();
        paidBack();
        salvageStays();
        bribed();
        whetherFake();
        inspectOfNone();
        inspectOfTheVoid();
        howManyEnded();
        bribeOfNobody();
        setOfExporters();
    }

    /** As many EXPORTERS as BUYERS, and a POLICY of each EXPORTER. */
    private static Exportcover pairs(int count) {
        Exportcover x = new Exportcover();
        x.land(0, 0);
        for (int i = 0; i < count; i++) {
            x.buyer(0, 0);
            x.exporter();
            x.policy(i, 50, -1, 0);
        }
        return x;
    }

    private void stepsOfGoods() {
        Check check = said.chapter(7, "GOODS go from an EXPORTER to a BUYER, if there is a SHIPMENT of one of its "
            + "POLICIES to that one, and from a BUYER to an EXPORTER, if it SELLS to it, or if that one OWNS it.");
        Exportcover x = pairs(2);
        x.policy(0, 50, -1, 0);
        x.limit(0, 0, 1);
        x.link(0, 0, true);
        x.link(0, 0, false);
        check.due("no SHIPMENT", x.circles(), 0);
        x.ship(1, 0, 1, 30, false);
        x.ship(0, 1, 1, 30, false);
        check.due("SHIPMENTS of another one, and to another one", x.circles(), 0);
        x.ship(2, 0, 1, 30, false);
        check.due("a SHIPMENT of another POLICY of it", x.circles(), 1);
        Exportcover sells = pairs(1);
        sells.ship(0, 0, 1, 30, false);
        check.due("no link", sells.circles(), 0);
        sells.link(0, 0, false);
        check.due("it SELLS", sells.circles(), 1);
        Exportcover owned = pairs(1);
        owned.ship(0, 0, 1, 30, false);
        owned.link(0, 0, true);
        check.due("it is OWNED", owned.circles(), 1);
    }

    /** No SHIPMENT is left out: not one that is FAKE, VOID, paid or PUT OFF. */
    private void goodsOfAnyShipment() {
        Check check = said.chapter(7, "if there is a SHIPMENT of one of its POLICIES to that one");
        Exportcover fake = pairs(1);
        fake.link(0, 0, true);
        fake.ship(0, 0, 1, 30, true);
        check.due("a CIRCLE by a FAKE one", fake.circles(), 1);
        check.due("SUSPECT, FAKE", fake.books(18), 1);
        fake.inspect(0);
        check.due("a CIRCLE by a VOID one", fake.circles(), 1);
        check.due("SUSPECT, VOID", fake.books(18), 1);
        Exportcover paid = pairs(1);
        paid.link(0, 0, false);
        paid.ship(0, 0, 1, 30, false);
        paid.earn(0, 1);
        paid.pay(0, 1);
        check.due("a CIRCLE by a paid one", paid.circles(), 1);
        check.due("SUSPECT, paid", paid.books(18), 1);
        Exportcover putOff = pairs(1);
        putOff.link(0, 0, false);
        putOff.ship(0, 0, 1, 30, false);
        putOff.pass(30);
        putOff.club(0, 10, 1);
        check.due("a CIRCLE by one PUT OFF", putOff.circles(), 1);
        check.due("SUSPECT, PUT OFF", putOff.books(18), 1);
    }

    private void backToItself() {
        Check check = said.chapter(7, "A CIRCLE: who comes back to itself by such steps.");
        for (int count = 1; count <= 6; count++) {
            Exportcover x = pairs(count);
            for (int i = 0; i < count; i++) {
                x.ship(i, i, 1, 30, true);
                check.due("no CIRCLE yet", x.circles(), 0);
                x.link((i + 1) % count, i, i % 2 == 0);
            }
            check.due("a CIRCLE of " + count, x.circles(), (1 << count) - 1);
            for (int i = 0; i < count; i++) {
                check.due("in it", x.ofExporter(i, 5), 1);
            }
        }
        Exportcover ahead = pairs(2);
        ahead.ship(0, 0, 1, 30, false);
        ahead.link(1, 0, true);
        ahead.ship(1, 1, 1, 30, false);
        ahead.link(1, 1, true);
        check.due("who only leads into a CIRCLE is not in it", ahead.circles(), 2);
        Exportcover forked = pairs(4);
        forked.ship(0, 0, 1, 30, false);
        forked.ship(0, 1, 1, 30, false);
        forked.link(1, 0, true);
        forked.ship(1, 2, 1, 30, false);
        forked.link(2, 1, true);
        forked.ship(2, 3, 1, 30, false);
        check.due("two ways that do not come back", forked.circles(), 0);
        forked.link(0, 3, true);
        check.due("the second way comes back", forked.circles(), 1 + 4);
        check.due("SUSPECT", forked.books(18), 2);
        forked.link(0, 2, false);
        check.due("both ways come back", forked.circles(), 1 + 2 + 4);
        check.due("SUSPECT", forked.books(18), 4);
    }

    private void suspects() {
        Check check = said.chapter(7,
            "SUSPECT are all SHIPMENTS whose EXPORTER and BUYER each can be reached from the other one by such steps.");
        Exportcover x = pairs(3);
        x.ship(0, 0, 1, 30, false);
        check.due("no CIRCLE", x.books(18), 0);
        x.link(1, 0, false);
        x.ship(1, 1, 1, 30, false);
        check.due("no way back", x.books(18), 0);
        x.link(0, 1, true);
        check.due("both ways", x.books(18), 2);
        x.ship(0, 2, 1, 30, false);
        check.due("one out of the CIRCLE", x.books(18), 2);
        x.ship(2, 1, 1, 30, false);
        check.due("one into the CIRCLE", x.books(18), 2);
        x.ship(0, 1, 1, 30, false);
        check.due("one across the CIRCLE", x.books(18), 3);
        x.ship(0, 0, 1, 30, true);
        check.due("one more on the same way", x.books(18), 4);
    }

    private void inspected() {
        Check check = said.chapter(7, "To INSPECT a SHIPMENT: if it is FAKE, it is VOID: its POLICY is ENDED;");
        Exportcover x = Office.plain();
        x.policy(0, 50, -1, 0);
        x.ship(0, 0, 10, 30, false);
        x.ship(0, 0, 10, 30, true);
        x.ship(0, 0, 10, 30, true);
        x.inspect(0);
        check.due("a true one", x.ofShipment(0, 11), 0);
        check.due("its POLICY", x.ofPolicy(0, 4), 0);
        x.inspect(1);
        check.due("a FAKE one", x.ofShipment(1, 11), 16 + 32);
        check.due("its POLICY", x.ofPolicy(0, 4), 1);
        check.due("the other POLICY", x.ofPolicy(1, 4), 0);
        check.due("the other FAKE one", x.ofShipment(2, 11), 32);
        check.due("the CHEST of the EXPORTER", x.ofExporter(0, 0), -3);
        check.due("inspect, the POLICY ENDED already", x.inspect(2), true);
    }

    private void paidBack() {
        Check check = said.chapter(7, "if it is CLAIMED also (it stays so), the EXPORTER pays GROSS back to the "
            + "OFFICE, which pays SHARE back to the RIVAL.");
        Exportcover x = Office.claimedFake();
        x.inspect(0);
        check.due("CLAIMED and VOID", x.ofShipment(0, 11), 1 + 4 + 16 + 32);
        check.due("the EXPORTER", x.ofExporter(0, 0), -1);
        check.due("the OFFICE", x.books(7), 1);
        check.due("the RIVAL", x.books(9), 0);
        check.due("CLAIMED ones", x.books(15), 1);
        check.due("GROSS", x.ofShipment(0, 13), 630);
        check.due("isSound()", x.isSound(), true);
    }

    private void salvageStays() {
        Check check = said.chapter(7, "(SALVAGE of it was shared, and stays so.)");
        Exportcover x = Office.claimedFake();
        x.salvage(0, 1000);
        x.inspect(0);
        check.due("the EXPORTER", x.ofExporter(0, 0), -1 + 370);
        check.due("the OFFICE", x.books(7), 1 + 441);
        check.due("the RIVAL", x.books(9), 189);
        check.due("RECOVERED", x.ofShipment(0, 14), 1000);
        check.due("LEFT", x.ofShipment(0, 5), 0);
        check.due("OFFICE had", x.part(0, 1, true), 441);
        check.due("RECOVERIES", x.books(13), 441);
        check.due("isSound()", x.isSound(), true);
    }

    private void bribed() {
        Check check = said.chapter(7,
            "BRIBES of an EXPORTER: all its POLICIES are ENDED (SHIPMENTS stay as they are).");
        Exportcover x = Office.reported(1000, 180);
        x.exporter();
        x.policy(1, 50, -1, 0);
        x.policy(0, 50, -1, 0);
        x.bribe(0);
        int[] due = {1, 0, 1};
        for (int i = 0; i < due.length; i++) {
            check.due("ENDED " + i, x.ofPolicy(i, 4), due[i]);
        }
        check.due("INSURED", x.ofShipment(0, 6), 1000);
        check.due("AT RISK", x.granted(0, 0, false), 1000);
        check.due("claim under an ENDED POLICY", x.claim(0), 900);
    }

    private void whetherFake() {
        Check check = said.promise(26, "Returns whether it is FAKE.");
        Exportcover x = Office.plain();
        x.ship(0, 0, 10, 30, false);
        x.ship(0, 0, 10, 30, true);
        check.due("inspect of a true one", x.inspect(0), false);
        check.due("inspect of a true one again", x.inspect(0), false);
        check.due("inspect of a FAKE one", x.inspect(1), true);
    }

    private void inspectOfNone() {
        Check check = said.promise(26, "Throws `IndexOutOfBoundsException` if there is no such SHIPMENT");
        Exportcover none = Office.plain();
        check.noIndexBeside(none, "inspect without a SHIPMENT", 0, shipment -> none.inspect(shipment));
        Exportcover x = Office.due(1);
        check.noIndexBeside(x, "inspect", 1, shipment -> x.inspect(shipment));
    }

    private void inspectOfTheVoid() {
        Check check = said.promise(26, "Throws `IllegalStateException` if it is VOID");
        Exportcover x = Office.claimedFake();
        x.inspect(0);
        check.noState(x, "inspect of a VOID one", () -> x.inspect(0));
        check.due("the EXPORTER pays once", x.ofExporter(0, 0), -1);
    }

    private void howManyEnded() {
        Check check = said.promise(27, "Returns how many POLICIES are ENDED by that.");
        Exportcover none = new Exportcover();
        none.exporter();
        check.due("bribe of one without POLICIES", none.bribe(0), 0);
        Exportcover x = Office.plain();
        x.exporter();
        for (int i = 1; i < 8; i++) {
            x.policy(0, 50, -1, 0);
        }
        x.ship(7, 0, 1, 30, true);
        x.inspect(0);
        check.due("bribe of another one", x.bribe(1), 0);
        check.due("bribe, one of eight ENDED already", x.bribe(0), 7);
        check.due("bribe again", x.bribe(0), 0);
    }

    private void bribeOfNobody() {
        Check check = said.promise(27, "Throws `IndexOutOfBoundsException` if there is no such EXPORTER");
        Exportcover none = new Exportcover();
        check.noIndexBeside(none, "bribe without an EXPORTER", 0, exporter -> none.bribe(exporter));
        Exportcover x = Office.plain();
        check.noIndexBeside(x, "bribe", 1, exporter -> x.bribe(exporter));
    }

    private void setOfExporters() {
        Check check = said.promise(42, "Returns the set of EXPORTERS that are in a CIRCLE.");
        check.due("circles of nobody", new Exportcover().circles(), 0);
        Exportcover x = pairs(6);
        check.due("circles without goods", x.circles(), 0);
        int sum = 0;
        for (int i = 5; i >= 0; i--) {
            x.ship(i, i, 1, 30, false);
            x.link(i, i, true);
            sum += 1 << i;
            check.due("circles", x.circles(), sum);
        }
        check.due("circles of all", x.circles(), 63);
    }
}
