/** The edges of chapter 4 as to what BUYERS pay, and of promise 19. */
final class PaymentEdges {
    private final Sentences said;

    PaymentEdges(Sentences said) {
        this.said = said;
    }

    void run() {
        forWhatOnePays();
        byDueThenNumbers();
        leftAtMost();
        recoveryOrExporter();
        daysBeside();
        asFarAsTheChestGoes();
        whoCanNotPayWhenDue();
        justThatOne();
        amountAtMost();
        howMuchItPaid();
        payOfNobody();
        payBeside();
        whoCanNotPay();
    }

    private static void dueLeft(Check check, Exportcover x, int... due) {
        for (int i = 0; i < due.length; i++) {
            check.due("LEFT of " + i, x.ofShipment(i, 5), due[i]);
        }
    }

    private void forWhatOnePays() {
        Check check = said.chapter(4,
            "What a BUYER pays goes to its SHIPMENTS that are neither FAKE nor VOID nor PUT OFF");
        Exportcover none = Office.plain();
        none.earn(0, 9);
        check.due("pay without a SHIPMENT", none.pay(0, 9), 0);
        Exportcover fake = Office.plain();
        fake.ship(0, 0, 9, 30, true);
        fake.earn(0, 9);
        check.due("pay for a FAKE one", fake.pay(0, 9), 0);
        fake.inspect(0);
        check.due("pay for a VOID one", fake.pay(0, 9), 0);
        Exportcover putOff = Office.due(9);
        putOff.club(0, 100, 10);
        putOff.earn(0, 9);
        check.due("pay for one PUT OFF", putOff.pay(0, 9), 0);
        Exportcover other = Office.plain();
        other.buyer(0, 0);
        other.ship(0, 1, 9, 30, false);
        other.earn(0, 9);
        check.due("pay for what is another one's", other.pay(0, 9), 0);
        Exportcover disputed = Office.plain();
        disputed.ship(0, 0, 9, 30, false);
        disputed.dispute(0);
        disputed.earn(0, 9);
        check.due("pay for one in DISPUTE", disputed.pay(0, 9), 9);
    }

    private void byDueThenNumbers() {
        Check check = said.chapter(4, "with LEFT above 0, by rising DUE (then by numbers)");
        Exportcover x = Office.plain();
        x.ship(0, 0, 1, 32, false);
        x.ship(0, 0, 1, 31, false);
        x.ship(0, 0, 1, 30, false);
        x.ship(0, 0, 1, 31, false);
        x.earn(0, 4);
        x.pay(0, 1);
        dueLeft(check, x, 1, 1, 0, 1);
        x.pay(0, 1);
        dueLeft(check, x, 1, 0, 0, 1);
        x.pay(0, 1);
        dueLeft(check, x, 1, 0, 0, 0);
        x.pay(0, 1);
        dueLeft(check, x, 0, 0, 0, 0);
    }

    private void leftAtMost() {
        Check check = said.chapter(4, "each gets what is there, LEFT at most;");
        Exportcover x = Office.plain();
        x.ship(0, 0, 10, 30, false);
        x.ship(0, 0, 10, 31, false);
        x.earn(0, 99);
        x.pay(0, 9);
        dueLeft(check, x, 1, 10);
        x.pay(0, 1);
        dueLeft(check, x, 0, 10);
        x.pay(0, 99999);
        dueLeft(check, x, 0, 0);
        check.due("CHEST", x.ofBuyer(0, 3), 79);
        for (int amount = 9; amount <= 21; amount++) {
            Exportcover both = Office.plain();
            both.ship(0, 0, 10, 30, false);
            both.ship(0, 0, 10, 31, false);
            both.earn(0, 99);
            check.due("pay of " + amount, both.pay(0, amount), Math.min(20, amount));
            dueLeft(check, both, Math.max(0, 10 - amount), Math.max(0, Math.min(10, 20 - amount)));
        }
    }

    private void recoveryOrExporter() {
        Check check = said.chapter(4, "of one that is CLAIMED it is a RECOVERY (6), otherwise the EXPORTER gets it.");
        Exportcover x = Office.claimed();
        x.ship(0, 0, 5, 30, false);
        int exporter = x.ofExporter(0, 0);
        x.earn(0, 9999);
        check.due("pay for both", x.pay(0, 9999), 1005);
        check.due("RECOVERED of the one CLAIMED", x.ofShipment(0, 14), 1000);
        check.due("RECOVERED of the other one", x.ofShipment(1, 14), 0);
        check.due("RECOVERIES", x.books(13), 441);
        check.due("CHEST of the EXPORTER", x.ofExporter(0, 0) - exporter, 370 + 5);
    }

    private void daysBeside() {
        Check check = said.chapter(4,
            "As a DAY begins, SHIPMENT by SHIPMENT that is DUE on that DAY, not FAKE, not VOID, not PUT OFF");
        Exportcover x = Office.plain();
        x.ship(0, 0, 1, 30, false);
        x.ship(0, 0, 2, 31, false);
        x.ship(0, 0, 4, 30, true);
        x.ship(0, 0, 8, 30, true);
        x.inspect(3);
        x.earn(0, 100);
        x.pass(29);
        dueLeft(check, x, 1, 2, 4, 8);
        x.pass(1);
        dueLeft(check, x, 0, 2, 4, 8);
        x.pass(1);
        dueLeft(check, x, 0, 0, 4, 8);
        Exportcover late = Office.due(5);
        late.earn(0, 100);
        late.pass(1);
        dueLeft(check, late, 5);
        late.club(0, 100, 10);
        late.pass(328);
        dueLeft(check, late, 5);
        check.due("CHEST", late.ofBuyer(0, 3), 100);
    }

    private void asFarAsTheChestGoes() {
        Check check = said.chapter(4, "pays LEFT for just that one, as far as its CHEST goes.");
        for (int chest = 0; chest <= 11; chest++) {
            Exportcover x = Office.plain();
            x.ship(0, 0, 10, 30, false);
            if (chest > 0) {
                x.earn(0, chest);
            }
            int exporter = x.ofExporter(0, 0);
            x.pass(30);
            int paid = Math.min(10, chest);
            check.due("LEFT with " + chest, x.ofShipment(0, 5), 10 - paid);
            check.due("CHEST with " + chest, x.ofBuyer(0, 3), chest - paid);
            check.due("the EXPORTER with " + chest, x.ofExporter(0, 0) - exporter, paid);
        }
    }

    private void whoCanNotPayWhenDue() {
        Check check = said.chapter(4, "its BUYER, if it CAN PAY,");
        for (int set = 0; set < 8; set++) {
            Exportcover x = Office.plain();
            x.ship(0, 0, 10, 30, false);
            x.earn(0, 10);
            x.pass(29);
            if ((set & 1) != 0) {
                x.broke(0);
            }
            if ((set & 2) != 0) {
                x.stop(0, true);
            }
            if ((set & 4) != 0) {
                x.war(0, true);
            }
            x.pass(1);
            dueLeft(check, x, set == 0 ? 0 : 10);
        }
        Exportcover over = Office.plain();
        over.ship(0, 0, 10, 30, false);
        over.earn(0, 10);
        over.stop(0, true);
        over.pass(30);
        over.stop(0, false);
        over.pass(720);
        dueLeft(check, over, 10);
    }

    private void justThatOne() {
        Check check = said.chapter(4, "pays LEFT for just that one");
        Exportcover x = Office.plain();
        x.ship(0, 0, 10, 30, false);
        x.ship(0, 0, 10, 60, false);
        x.pass(30);
        x.earn(0, 20);
        x.pass(30);
        dueLeft(check, x, 10, 0);
        check.due("CHEST", x.ofBuyer(0, 3), 10);
    }

    private void amountAtMost() {
        Check check = said.promise(19, "how much at most");
        Exportcover x = Office.due(10);
        x.earn(0, 10);
        check.due("pay of 9 of 10", x.pay(0, 9), 9);
        check.due("LEFT", x.ofShipment(0, 5), 1);
        check.due("CHEST", x.ofBuyer(0, 3), 1);
    }

    private void howMuchItPaid() {
        Check check = said.promise(19, "Returns how much it paid (as far as its CHEST goes, and there is LEFT).");
        Exportcover x = Office.plain();
        x.ship(0, 0, 10, 30, false);
        check.due("pay out of an empty CHEST", x.pay(0, 5), 0);
        x.earn(0, 4);
        check.due("pay of as much as there is", x.pay(0, 4), 4);
        x.earn(0, 4);
        check.due("pay of more than there is", x.pay(0, 99999), 4);
        x.earn(0, 9);
        check.due("pay of less than is LEFT", x.pay(0, 1), 1);
        check.due("pay of more than is LEFT", x.pay(0, 8), 1);
        check.due("pay where nothing is LEFT", x.pay(0, 8), 0);
        check.due("CHEST", x.ofBuyer(0, 3), 7);
    }

    private void payOfNobody() {
        Check check = said.promise(19, "Throws `IndexOutOfBoundsException` if there is no such BUYER");
        Exportcover none = new Exportcover();
        check.noIndexBeside(none, "pay without a BUYER", 0, buyer -> none.pay(buyer, 1));
        Exportcover x = Office.due(10);
        x.earn(0, 10);
        check.noIndexBeside(x, "pay", 1, buyer -> x.pay(buyer, 1));
        check.due("pay of the one", x.pay(0, 1), 1);
    }

    private void payBeside() {
        Check check = said.promise(19, "Throws `IllegalArgumentException` if amount is not 1 to 99999");
        Exportcover x = Office.due(99999);
        x.earn(0, 99999);
        x.earn(0, 1);
        check.noArgumentBeside(x, "pay", 1, 99999, amount -> x.pay(0, amount));
        check.due("pay of 1", x.pay(0, 1), 1);
        check.due("pay of 99999", x.pay(0, 99999), 99998);
    }

    private void whoCanNotPay() {
        Check check = said.promise(19, "Throws `IllegalStateException` if it CAN not PAY");
        Exportcover x = Office.due(10);
        x.earn(0, 10);
        x.stop(0, true);
        check.noState(x, "pay, STOPPED", () -> x.pay(0, 1));
        x.war(0, true);
        check.noState(x, "pay, STOPPED and at WAR", () -> x.pay(0, 1));
        x.stop(0, false);
        check.noState(x, "pay, at WAR", () -> x.pay(0, 1));
        x.war(0, false);
        check.due("pay", x.pay(0, 1), 1);
        x.broke(0);
        check.noState(x, "pay, BROKE", () -> x.pay(0, 1));
        Exportcover empty = Office.plain();
        empty.broke(0);
        check.noState(empty, "pay of nothing, BROKE", () -> empty.pay(0, 1));
    }
}
