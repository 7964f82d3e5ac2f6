/** Promises 24, 25 and 36: salvage, the club, and who has had what. */
public final class RecoveriesTest {
    private static final Check check = new Check();

    public static void main(String[] args) {
        centByCent();
        salvage();
        clubPutsOff();
        clubLeavesOut();
        yearsGoBy();
        yearsAtWar();
        smallDebts();
        claimedAndPutOff();
        dueThenYear();
        parts();
        check.end();
    }

    /** LOSS 1000, PARTS 370, 441 and 189. */
    private static void centByCent() {
        Exportcover x = Office.claimed();
        int office = x.books(7);
        int rival = x.books(9);
        int exporter = x.ofExporter(0, 0);
        int recovered = 0;
        int least = 0;
        int before = 0;
        int[] steps = {1, 1, 1, 1, 1, 1, 1, 1, 1, 1, 1, 1, 1, 1, 1, 1, 1, 1, 1, 1, 1, 1, 7, 13, 200, 333, 99};
        for (int step : steps) {
            check.due("salvage", x.salvage(0, step), step);
            recovered += step;
            int toOffice = recovered * 441 / 1000;
            int toRival = recovered * 189 / 1000;
            int toExporter = recovered - toOffice - toRival;
            check.due("RECOVERED", x.ofShipment(0, 14), recovered);
            check.due("OFFICE had", x.part(0, 1, true), toOffice);
            check.due("RIVAL had", x.part(0, 2, true), toRival);
            check.due("EXPORTER had", x.part(0, 0, true), toExporter);
            check.due("CHEST of the OFFICE", x.books(7) - office, toOffice);
            check.due("CHEST of the RIVAL", x.books(9) - rival, toRival);
            check.due("CHEST of the EXPORTER", x.ofExporter(0, 0) - exporter, toExporter);
            check.due("RECOVERIES", x.books(13), toOffice);
            least = Math.min(least, toExporter - before);
            before = toExporter;
        }
        check.due("once the EXPORTER paid", least, -1);
        check.due("isSound()", x.isSound(), true);
    }

    private static void salvage() {
        Exportcover x = Office.claimed();
        int world = x.books(10);
        check.noIndex(x, "salvage(1, 0)", () -> x.salvage(1, 0));
        check.noIndex(x, "salvage(-1, 1)", () -> x.salvage(-1, 1));
        check.noArgument(x, "salvage(0, 0)", () -> x.salvage(0, 0));
        check.noArgument(x, "salvage(0, 100000)", () -> x.salvage(0, 100000));
        check.due("salvage", x.salvage(0, 600), 600);
        check.due("LEFT", x.ofShipment(0, 5), 400);
        check.due("the WORLD", x.books(10), world - 600);
        check.due("salvage, LEFT at most", x.salvage(0, 99999), 400);
        check.due("LEFT", x.ofShipment(0, 5), 0);
        check.due("salvage, nothing LEFT", x.salvage(0, 1), 0);
        check.due("EXPORTER had", x.part(0, 0, true), 370);
        check.due("OFFICE had", x.part(0, 1, true), 441);
        check.due("RIVAL had", x.part(0, 2, true), 189);
        x.ship(0, 0, 100, 30, false);
        check.noState(x, "salvage of what is not CLAIMED", () -> x.salvage(1, 1));
        check.noArgument(x, "salvage of 0 of what is not CLAIMED", () -> x.salvage(1, 0));

        Exportcover fake = Office.plain();
        fake.ship(0, 0, 1000, 30, true);
        fake.pass(210);
        fake.report(0);
        fake.claim(0);
        check.due("salvage of a FAKE one", fake.salvage(0, 100), 100);
        fake.inspect(0);
        check.noState(fake, "salvage of a VOID one", () -> fake.salvage(0, 100));
        check.due("RECOVERED stays", fake.ofShipment(0, 14), 100);

        Exportcover big = Office.plain();
        big.ship(0, 0, 99999, 30, false);
        big.pass(210);
        big.report(0);
        check.due("claim", big.claim(0), 10800);
        check.due("salvage", big.salvage(0, 99998), 99998);
        check.due("OFFICE had", big.part(0, 1, true), (int) (99998L * 7560 / 99999));
        check.due("RIVAL had", big.part(0, 2, true), (int) (99998L * 3240 / 99999));
        check.due("isSound()", big.isSound(), true);
    }

    private static void clubPutsOff() {
        Exportcover x = Office.plain();
        x.ship(0, 0, 999, 30, false);
        x.ship(0, 0, 100, 31, false);
        x.ship(0, 0, 100, 32, false);
        check.noIndex(x, "club(1, 9, 0)", () -> x.club(1, 9, 0));
        check.noIndex(x, "club(-1, 10, 1)", () -> x.club(-1, 10, 1));
        check.noArgument(x, "club(0, 9, 1)", () -> x.club(0, 9, 1));
        check.noArgument(x, "club(0, 101, 1)", () -> x.club(0, 101, 1));
        check.noArgument(x, "club(0, 10, 0)", () -> x.club(0, 10, 0));
        check.noArgument(x, "club(0, 10, 11)", () -> x.club(0, 10, 11));
        check.due("club too early", x.club(0, 10, 1), 0);
        x.pass(31);
        check.due("club", x.club(0, 33, 10), 2);
        check.due("OWED", x.ofShipment(0, 16), 329);
        check.due("LEFT", x.ofShipment(0, 5), 329);
        check.due("FORGIVEN", x.ofShipment(0, 15), 670);
        check.due("OWED", x.ofShipment(1, 16), 33);
        check.due("PUT OFF", x.ofShipment(0, 11), 8);
        check.due("not yet DUE", x.ofShipment(2, 11), 0);
        check.due("AT RISK", x.granted(0, 0, false), 100);
        check.due("PUT OFF ones", x.books(16), 2);
        check.due("club again", x.club(0, 50, 1), 0);
        x.pass(1);
        check.due("club for the third", x.club(0, 100, 1), 1);
        check.due("FORGIVEN", x.ofShipment(2, 15), 0);
        check.due("OWED", x.ofShipment(2, 16), 100);
    }

    private static void clubLeavesOut() {
        Exportcover x = Office.plain();
        x.land(0, 0);
        x.buyer(1, 0);
        x.ship(0, 0, 100, 30, true);
        x.ship(0, 1, 100, 30, false);
        x.ship(0, 0, 100, 30, false);
        x.ship(0, 0, 100, 30, true);
        x.inspect(3);
        x.earn(0, 100);
        x.pass(30);
        check.due("club of FAKE, VOID and paid ones", x.club(0, 50, 1), 0);
        check.due("club of the other LAND", x.club(1, 50, 1), 1);
        x.pass(330);
        check.due("club", x.ofShipment(1, 5), 0);
    }

    private static void yearsGoBy() {
        Exportcover x = Office.plain();
        x.pass(100);
        x.ship(0, 0, 1000, 30, false);
        x.pass(30);
        x.earn(0, 999);
        x.club(0, 100, 3);
        int world = x.books(10);
        int exporter = x.ofExporter(0, 0);
        x.pass(229);
        check.due("LEFT", x.ofShipment(0, 5), 1000);
        x.pass(1);
        check.due("LEFT", x.ofShipment(0, 5), 667);
        check.due("the EXPORTER", x.ofExporter(0, 0), exporter + 333);
        check.due("the WORLD", x.books(10), world - 333);
        check.due("OWED stays", x.ofShipment(0, 16), 1000);
        check.due("RECOVERED", x.ofShipment(0, 14), 0);
        check.due("CHEST of the BUYER", x.ofBuyer(0, 3), 999);
        x.stop(0, true);
        x.broke(0);
        x.pass(360);
        check.due("LEFT, STOPPED and BROKE", x.ofShipment(0, 5), 334);
        x.pass(359);
        check.due("LEFT", x.ofShipment(0, 5), 334);
        x.pass(1);
        check.due("all at the last time", x.ofShipment(0, 5), 0);
        check.due("the EXPORTER", x.ofExporter(0, 0), exporter + 1000);
        x.pass(360);
        check.due("the EXPORTER", x.ofExporter(0, 0), exporter + 1000);
        check.due("isSound()", x.isSound(), true);
    }

    private static void yearsAtWar() {
        Exportcover x = Office.plain();
        x.ship(0, 0, 100, 30, false);
        x.pass(30);
        x.club(0, 100, 2);
        x.war(0, true);
        x.pass(720);
        check.due("LEFT at WAR", x.ofShipment(0, 5), 100);
        x.war(0, false);
        x.pass(360);
        check.due("LEFT behind it", x.ofShipment(0, 5), 50);
        x.pass(360);
        check.due("LEFT in the end", x.ofShipment(0, 5), 0);
    }

    /** 3 cents in 4 years: 0 each time, but all of it at the last one; and 10 hundredths of 9 cents are 0. */
    private static void smallDebts() {
        Exportcover x = Office.plain();
        x.ship(0, 0, 3, 30, false);
        x.ship(0, 0, 9, 40, false);
        x.pass(30);
        x.club(0, 100, 4);
        x.pass(10);
        check.due("club", x.club(0, 10, 4), 1);
        check.due("OWED", x.ofShipment(1, 16), 0);
        check.due("LEFT", x.ofShipment(1, 5), 0);
        check.due("FORGIVEN", x.ofShipment(1, 15), 9);
        check.due("PUT OFF", x.ofShipment(1, 11), 8);
        x.pass(720);
        x.pass(679);
        check.due("LEFT", x.ofShipment(0, 5), 3);
        x.pass(1);
        check.due("LEFT", x.ofShipment(0, 5), 0);

        Exportcover cent = Office.plain();
        cent.ship(0, 0, 1, 30, false);
        cent.pass(30);
        cent.club(0, 100, 1);
        cent.pass(330);
        check.due("LEFT of a cent", cent.ofShipment(0, 5), 0);
    }

    /** LOSS 1000, PARTS 370, 441 and 189; 600 OWED in 3 years. */
    private static void claimedAndPutOff() {
        Exportcover x = Office.claimed();
        x.salvage(0, 100);
        check.due("club", x.club(0, 60, 3), 1);
        check.due("OWED", x.ofShipment(0, 16), 540);
        check.due("FORGIVEN", x.ofShipment(0, 15), 360);
        check.due("RECOVERED", x.ofShipment(0, 14), 100);
        check.due("CLAIMED, PUT OFF, REPORTED", x.ofShipment(0, 11), 1 + 4 + 8);
        check.due("isSound()", x.isSound(), true);
        x.pass(150);
        check.due("RECOVERED", x.ofShipment(0, 14), 280);
        check.due("OFFICE had", x.part(0, 1, true), 123);
        check.due("RIVAL had", x.part(0, 2, true), 52);
        check.due("EXPORTER had", x.part(0, 0, true), 105);
        check.due("salvage of one PUT OFF", x.salvage(0, 300), 300);
        x.pass(360);
        check.due("LEFT at most", x.ofShipment(0, 5), 0);
        check.due("RECOVERED", x.ofShipment(0, 14), 640);
        check.due("RECOVERIES", x.books(13), 640 * 441 / 1000);
        check.due("isSound()", x.isSound(), true);
    }

    /** What is DUE as the YEAR begins is paid first. */
    private static void dueThenYear() {
        Exportcover x = Office.plain();
        x.ship(0, 0, 100, 30, false);
        x.ship(0, 0, 70, 360, false);
        x.pass(30);
        x.club(0, 100, 1);
        x.earn(0, 100);
        x.pass(330);
        check.due("what was DUE", x.ofShipment(1, 5), 0);
        check.due("what was PUT OFF", x.ofShipment(0, 5), 0);
        check.due("CHEST", x.ofBuyer(0, 3), 30);
        check.due("the WORLD", x.books(10), -200);
    }

    private static void parts() {
        Exportcover x = Office.plain();
        x.ship(0, 0, 100, 30, false);
        for (int whose = 0; whose < 3; whose++) {
            check.due("PART of what is not CLAIMED", x.part(0, whose, false), 0);
            check.due("had of what is not CLAIMED", x.part(0, whose, true), 0);
        }
        check.noIndex(x, "part(1, 3, true)", () -> x.part(1, 3, true));
        check.noIndex(x, "part(-1, 0, true)", () -> x.part(-1, 0, true));
        check.noArgument(x, "part(0, -1, true)", () -> x.part(0, -1, true));
        check.noArgument(x, "part(0, 3, false)", () -> x.part(0, 3, false));
    }
}
