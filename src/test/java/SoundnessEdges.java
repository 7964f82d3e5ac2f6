/** The edges of promise 45: as sound as can be, and unsound by a cent. */
final class SoundnessEdges {
    private final Sentences said;

    SoundnessEdges(Sentences said) {
        this.said = said;
    }

    void run() {
        chests();
        balance();
        parts();
        amounts();
        voids();
        digestOfTheUnsound();
    }

    /** What is added to one CHEST is taken from the WORLD, so that all together stay 0. */
    private static void move(Exportcover x, Object chest, int amount) {
        Inside.add(chest, "cents", amount);
        Inside.add(Inside.of(x, "world"), "cents", -amount);
    }

    private void chests() {
        Check check = said.promise(45,
            "Returns whether all of this is so: all CHESTS together are 0, and none of a BUYER is below 0;");
        check.due("isSound() of nothing", new Exportcover().isSound(), true);
        Exportcover x = Office.plain();
        x.buyer(0, 0);
        x.earn(0, 1);
        x.earn(1, 1);
        check.due("isSound(), CHESTS of a cent", x.isSound(), true);
        for (int cent = -1; cent <= 1; cent += 2) {
            Inside.add(Inside.of(x, "world"), "cents", cent);
            check.due("isSound(), a cent beside 0", x.isSound(), false);
            Inside.add(Inside.of(x, "world"), "cents", -cent);
        }
        String[] others = {"rivalZero", "rivalOne"};
        for (String other : others) {
            move(x, Inside.of(x, other), -1);
            check.due("isSound(), a RIVAL below 0", x.isSound(), true);
        }
        move(x, Inside.of(Inside.at(x, "exporters", 0), "chest"), -1);
        check.due("isSound(), an EXPORTER below 0", x.isSound(), true);
        for (int buyer = 0; buyer < 2; buyer++) {
            Object chest = Inside.of(Inside.at(x, "buyers", buyer), "chest");
            move(x, chest, -1);
            check.due("isSound(), an empty CHEST", x.isSound(), true);
            move(x, chest, -1);
            check.due("CHEST", x.ofBuyer(buyer, 3), -1);
            check.due("isSound(), a BUYER below 0", x.isSound(), false);
            move(x, chest, 2);
        }
        check.due("isSound() again", x.isSound(), true);
    }

    private void balance() {
        Check check = said.promise(45, "BALANCE is the CHEST of the OFFICE;");
        Exportcover x = Office.claimed();
        x.salvage(0, 100);
        check.due("isSound(), BALANCE below 0", x.isSound(), true);
        move(x, Inside.of(x, "office"), 1);
        check.due("isSound(), a cent too many", x.isSound(), false);
        move(x, Inside.of(x, "office"), -2);
        check.due("isSound(), a cent too few", x.isSound(), false);
        move(x, Inside.of(x, "office"), 1);
        String[] counted = {"premiums", "claims", "recoveries"};
        for (String each : counted) {
            Inside.add(x, each, 1);
            check.due("isSound(), one more of " + each, x.isSound(), false);
            Inside.add(x, each, -1);
        }
        check.due("isSound() again", x.isSound(), true);
    }

    private void parts() {
        Check check = said.promise(45, "of each SHIPMENT that is CLAIMED the PARTS together are LOSS, what was had of "
            + "RECOVERIES together is RECOVERED, and LOSS is LEFT, RECOVERED and what was FORGIVEN since, together;");
        int[] amounts = {1, 2, 3, 7, 999, 12000, 99999};
        for (int amount : amounts) {
            Exportcover x = Office.claimed(95, 1, 59, 12000, amount);
            dueSound(check, x);
            x.salvage(0, 1);
            dueSound(check, x);
            x.club(0, 33, 4);
            dueSound(check, x);
            Office.passTo(x, 720);
            dueSound(check, x);
            Office.passTo(x, 7200);
            dueSound(check, x);
        }
        Exportcover x = Office.claimed();
        x.ship(0, 0, 10, 30, false);
        x.salvage(0, 100);
        Object damage = Inside.of(Inside.at(x, "shipments", 0), "damage");
        String[] had = {"exporterHad", "officeHad", "rivalHad"};
        for (String each : had) {
            Inside.add(damage, each, 1);
            check.due("isSound(), one more of " + each, x.isSound(), false);
            Inside.add(damage, each, -1);
        }
        Inside.add(Inside.at(x, "shipments", 1), "left", -1);
        check.due("isSound(), a cent less LEFT of one not CLAIMED", x.isSound(), true);
        Inside.add(Inside.at(x, "shipments", 0), "left", -1);
        check.due("isSound(), a cent less LEFT of one CLAIMED", x.isSound(), false);
        Inside.add(Inside.at(x, "shipments", 0), "left", 2);
        check.due("isSound(), a cent more LEFT of one CLAIMED", x.isSound(), false);
        Inside.add(Inside.at(x, "shipments", 0), "left", -1);
        check.due("isSound() again", x.isSound(), true);
    }

    private static void dueSound(Check check, Exportcover x) {
        int loss = x.ofShipment(0, 12);
        check.due("PARTS", x.part(0, 0, false) + x.part(0, 1, false) + x.part(0, 2, false), loss);
        check.due("had", x.part(0, 0, true) + x.part(0, 1, true) + x.part(0, 2, true), x.ofShipment(0, 14));
        check.due("LEFT and so on", x.ofShipment(0, 5) + x.ofShipment(0, 14) + x.ofShipment(0, 15), loss);
        check.due("isSound()", x.isSound(), true);
    }

    private void amounts() {
        Check check = said.promise(45, "of no SHIPMENT LEFT is below 0 or above AMOUNT, or INSURED above AMOUNT;");
        for (int number = 0; number < 2; number++) {
            Exportcover x = Office.plain();
            x.ship(0, 0, 10, 30, false);
            x.ship(0, 0, 10, 30, true);
            Object shipment = Inside.at(x, "shipments", number);
            check.due("isSound(), LEFT and INSURED are AMOUNT", x.isSound(), true);
            Inside.add(shipment, "left", 1);
            check.due("isSound(), LEFT above AMOUNT", x.isSound(), false);
            Inside.add(shipment, "left", -11);
            check.due("LEFT", x.ofShipment(number, 5), 0);
            check.due("isSound(), LEFT is 0", x.isSound(), true);
            Inside.add(shipment, "left", -1);
            check.due("isSound(), LEFT below 0", x.isSound(), false);
            Inside.add(shipment, "left", 1);
            Inside.add(shipment, "insured", 1);
            check.due("isSound(), INSURED above AMOUNT", x.isSound(), false);
            Inside.add(shipment, "insured", -11);
            check.due("isSound(), INSURED is 0", x.isSound(), true);
        }
    }

    private void voids() {
        Check check = said.promise(45, "none is VOID that is not FAKE.");
        Exportcover x = Office.plain();
        x.ship(0, 0, 10, 30, true);
        x.ship(0, 0, 10, 30, false);
        x.inspect(0);
        check.due("isSound(), a FAKE one is VOID", x.isSound(), true);
        Inside.set(Inside.at(x, "shipments", 1), "isVoid", true);
        check.due("isSound(), a true one is VOID", x.isSound(), false);
        Exportcover claimed = Office.claimed();
        check.due("isSound(), a true one CLAIMED", claimed.isSound(), true);
        Inside.set(Inside.at(claimed, "shipments", 0), "isVoid", true);
        check.due("isSound(), a true one CLAIMED and VOID", claimed.isSound(), false);
    }

    private void digestOfTheUnsound() {
        Check check = said.promise(46, "1 if isSound(), otherwise 0.");
        Exportcover x = Office.claimed();
        check.due("digest of what is sound", x.digest(), Digests.reckoned(x));
        long sound = x.digest();
        Inside.add(Inside.of(Inside.at(x, "exporters", 0), "chest"), "cents", 1);
        check.due("isSound()", x.isSound(), false);
        check.due("digest of what is not", x.digest(), Digests.reckoned(x));
        Inside.add(Inside.of(Inside.at(x, "exporters", 0), "chest"), "cents", -1);
        check.due("digest of what is sound again", x.digest(), sound);
    }
}
