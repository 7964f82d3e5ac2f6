/** The edges of chapters 0 and 1, and of promises 1 and 28: numbers, days and chests. */
final class DayEdges {
    private final Sentences said;

    DayEdges(Sentences said) {
        this.said = said;
    }

    void run() {
        dividedTowardsZero();
        none();
        sets();
        byRisingNumbers();
        smallestNumber();
        firstAndLastDay();
        years();
        twoRivals();
        allChestsAreZero();
        chestsBelowZero();
        aNewObject();
        oneByOne();
        dayThen();
        daysAtOnce();
        dayAbove();
    }

    private void dividedTowardsZero() {
        Check check = said.chapter(0, "What is whole is divided towards 0.");
        Exportcover x = Office.plain();
        x.ship(0, 0, 2222, 30, false);
        check.due("PREMIUM, 19998 / 10000", x.ofShipment(0, 9), 1);
        x.ship(0, 0, 19, 30, false);
        x.pass(30);
        x.club(0, 10, 10);
        check.due("OWED, 190 / 100", x.ofShipment(1, 16), 1);
        check.due("YEAR, 30 / 360", x.books(1), 0);
        Exportcover cent = Office.reported(1, 180);
        check.due("GROSS, 90 / 100", cent.claim(0), 0);
    }

    private void none() {
        Check check = said.chapter(0, "NONE is -1.");
        Exportcover x = Office.plain();
        x.policy(0, 50, -1, 0);
        x.ship(1, 0, 1, 30, false);
        check.due("RIVAL", x.ofPolicy(1, 2), -1);
        check.due("the DAY of BROKE", x.ofBuyer(0, 2), -1);
        check.due("TROUBLE", x.ofLand(0, 5), -1);
        check.due("NOTICE", x.notice(0, 1), -1);
        check.due("when", x.when(0), -1);
    }

    private void sets() {
        Check check = said.chapter(0, "A set is the sum of 2^k for each number k.");
        Exportcover x = new Exportcover();
        x.land(0, 0);
        x.exporter();
        check.due("the empty set", x.ofExporter(0, 1), 0);
        int sum = 0;
        for (int k = 0; k < 12; k++) {
            x.buyer(0, 0);
            sum += (int) Math.pow(2, k);
            check.due("the set of 0 to " + k, x.link(0, k, true), sum);
        }
        check.due("the set of 11 alone", x.link(0, 11, false), 2048);
    }

    private void byRisingNumbers() {
        Check check = said.chapter(0, "X by X is by rising numbers.");
        Exportcover x = Office.plain();
        for (int i = 0; i < 3; i++) {
            x.ship(0, 0, 100, 30, false);
        }
        x.earn(0, 101);
        x.pass(30);
        check.due("LEFT of the first", x.ofShipment(0, 5), 0);
        check.due("LEFT of the second", x.ofShipment(1, 5), 99);
        check.due("LEFT of the third", x.ofShipment(2, 5), 100);
    }

    private void smallestNumber() {
        Check check = said.chapter(0, "it is that with the smallest number.");
        Exportcover x = Office.plain();
        x.ship(0, 0, 100, 31, false);
        for (int i = 1; i < 4; i++) {
            x.ship(0, 0, 100, 30, false);
        }
        x.earn(0, 1);
        x.pay(0, 1);
        check.due("LEFT of the first one that is DUE then", x.ofShipment(1, 5), 99);
        check.due("LEFT of the second one", x.ofShipment(2, 5), 100);
    }

    private void firstAndLastDay() {
        Check check = said.chapter(1, "DAY is 0 at first, 7200 at most");
        Exportcover x = new Exportcover();
        check.due("DAY at first", x.books(0), 0);
        Office.passTo(x, 7199);
        check.due("the last DAY", x.pass(1), 7200);
        check.noState(x, "a DAY behind it", () -> x.pass(1));
        check.due("DAY", x.books(0), 7200);
    }

    private void years() {
        Check check = said.chapter(1, "a YEAR has 360 DAYS (YEAR is DAY / 360).");
        Exportcover x = new Exportcover();
        check.due("YEAR on DAY 0", x.books(1), 0);
        for (int year = 1; year <= 20; year++) {
            x.pass(359);
            check.due("YEAR on the last DAY of it", x.books(1), year - 1);
            x.pass(1);
            check.due("YEAR on the first DAY of it", x.books(1), year);
        }
    }

    private void twoRivals() {
        Check check = said.chapter(1, "two RIVALS (0 and 1), and the WORLD");
        for (int rival = 0; rival <= 1; rival++) {
            Exportcover x = Office.claimed(90, rival, 50, 1000, 1000);
            check.due("CHEST of the RIVAL", x.books(8 + rival), -450);
            check.due("CHEST of the other one", x.books(9 - rival), 0);
        }
        Exportcover x = Office.plain();
        check.noIndex(x, "a RIVAL 2", () -> x.policy(0, 50, 2, 0));
        check.noIndex(x, "a RIVAL -2", () -> x.policy(0, 50, -2, 0));
    }

    private void allChestsAreZero() {
        Check check = said.chapter(1, "all together are always 0 (all are empty at first)");
        Exportcover x = Office.plain();
        for (int what = 7; what <= 10; what++) {
            check.due("a CHEST at first", x.books(what), 0);
        }
        check.due("a BUYER's CHEST at first", x.ofBuyer(0, 3), 0);
        check.due("an EXPORTER's CHEST at first", x.ofExporter(0, 0), 0);
        Exportcover y = Office.claimedFake();
        check.due("all CHESTS, once CLAIMED", Office.sumOfChests(y), 0);
        y.salvage(0, 333);
        check.due("all CHESTS behind SALVAGE", Office.sumOfChests(y), 0);
        y.inspect(0);
        check.due("all CHESTS, once paid back", Office.sumOfChests(y), 0);
        y.earn(0, 99999);
        check.due("all CHESTS, once earned", Office.sumOfChests(y), 0);
        Exportcover z = Office.due(1000);
        z.club(0, 77, 3);
        z.pass(720);
        check.due("all CHESTS, once PUT OFF", Office.sumOfChests(z), 0);
        check.due("isSound()", z.isSound(), true);
    }

    private void chestsBelowZero() {
        Check check = said.chapter(1, "CHESTS of BUYERS are never below 0, others can be.");
        Exportcover x = Office.claimed();
        check.due("CHEST of the OFFICE", x.books(7), 1 - 441);
        check.due("CHEST of the RIVAL", x.books(9), -189);
        x.earn(0, 10);
        check.due("CHEST of the WORLD", x.books(10), -10);
        check.due("pay of more than there is", x.pay(0, 11), 10);
        check.due("CHEST of the BUYER", x.ofBuyer(0, 3), 0);
        check.due("pay of nothing that there is", x.pay(0, 1), 0);
        check.due("CHEST of the BUYER", x.ofBuyer(0, 3), 0);
        Exportcover y = Office.plain();
        y.ship(0, 0, 100, 30, false);
        check.due("CHEST of the EXPORTER", y.ofExporter(0, 0), -1);
        y.earn(0, 99);
        y.pass(30);
        check.due("CHEST of the BUYER, behind what was DUE", y.ofBuyer(0, 3), 0);
        check.due("isSound()", y.isSound(), true);
    }

    private void aNewObject() {
        Check check = said.promise(1, "Creates an OFFICE without LANDS.");
        Exportcover x = new Exportcover();
        for (int what = 0; what <= 19; what++) {
            check.due("books(" + what + ")", x.books(what), 0);
        }
        check.noIndex(x, "LAND 0", () -> x.ofLand(0, 0));
        check.noIndex(x, "BUYER 0", () -> x.ofBuyer(0, 0));
        check.noIndex(x, "EXPORTER 0", () -> x.ofExporter(0, 0));
        check.noIndex(x, "POLICY 0", () -> x.ofPolicy(0, 0));
        check.noIndex(x, "SHIPMENT 0", () -> x.ofShipment(0, 0));
        check.due("circles of nobody", x.circles(), 0);
        check.dueDouble("expected of nothing", x.expected(), 0.0);
        check.dueDouble("probable(0) of nothing", x.probable(0), 1.0);
        check.due("isSound() of nothing", x.isSound(), true);
    }

    /** What is DUE earlier is paid first, whatever its number. */
    private void oneByOne() {
        Check check = said.promise(28, "Lets DAYS go by, one by one.");
        Exportcover x = Office.plain();
        x.ship(0, 0, 100, 32, false);
        x.ship(0, 0, 100, 31, false);
        x.ship(0, 0, 100, 30, false);
        x.earn(0, 250);
        x.pass(720);
        check.due("LEFT of what was DUE last", x.ofShipment(0, 5), 50);
        check.due("LEFT of what was DUE then", x.ofShipment(1, 5), 0);
        check.due("LEFT of what was DUE first", x.ofShipment(2, 5), 0);
        Exportcover two = Office.due(300);
        two.club(0, 100, 3);
        two.pass(720);
        check.due("LEFT behind two YEARS at once", two.ofShipment(0, 5), 100);
    }

    private void dayThen() {
        Check check = said.promise(28, "Returns DAY then.");
        Exportcover x = new Exportcover();
        check.due("pass(1)", x.pass(1), 1);
        check.due("pass(720)", x.pass(720), 721);
    }

    private void daysAtOnce() {
        Check check = said.promise(28, "Throws `IllegalArgumentException` if days is not 1 to 720");
        Exportcover x = new Exportcover();
        check.noArgumentBeside(x, "pass", 1, 720, days -> x.pass(days));
        check.due("pass(1)", x.pass(1), 1);
        check.due("pass(720)", x.pass(720), 721);
    }

    private void dayAbove() {
        Check check = said.promise(28, "Throws `IllegalStateException` if DAY would be above 7200");
        Exportcover x = new Exportcover();
        Office.passTo(x, 6481);
        check.noState(x, "pass to 7201", () -> x.pass(720));
        check.due("pass to 7200", x.pass(719), 7200);
        check.noState(x, "pass to 7201", () -> x.pass(1));
        check.noState(x, "pass to 7920", () -> x.pass(720));
        Exportcover y = new Exportcover();
        Office.passTo(y, 6480);
        check.due("pass of 720 to 7200", y.pass(720), 7200);
    }
}
