/** Promises 20 to 23 and 41: reports, causes, disputes, claims, and when one could claim. */
public final class ClaimsTest {
    private static final Check check = new Check();

    public static void main(String[] args) {
        reports();
        commercialCause();
        politicalCause();
        causeByDays();
        disputes();
        waiting();
        waitingChanges();
        whatCanNotBeClaimed();
        splitting();
        when();
        check.end();
    }

    private static void reports() {
        Exportcover x = Office.plain();
        x.ship(0, 0, 100, 30, false);
        x.ship(0, 0, 100, 30, false);
        x.ship(0, 0, 100, 30, true);
        x.pass(29);
        check.noState(x, "report ahead of DUE", () -> x.report(0));
        check.due("CAUSE ahead of DUE", x.ofShipment(0, 10), 0);
        x.earn(0, 100);
        x.pass(1);
        check.noState(x, "report of what is paid", () -> x.report(0));
        check.due("CAUSE of what is paid", x.ofShipment(0, 10), 0);
        check.due("report", x.report(1), 1);
        check.noState(x, "report again", () -> x.report(1));
        check.due("REPORTED", x.ofShipment(1, 11), 1);
        x.inspect(2);
        check.due("report of a VOID one", x.report(2), 1);
        check.due("CAUSE of a VOID one", x.ofShipment(2, 10), 1);
        check.noIndex(x, "report(3)", () -> x.report(3));
        check.noIndex(x, "report(-1)", () -> x.report(-1));
        Exportcover y = Office.plain();
        y.ship(0, 0, 100, 30, false);
        y.pass(30);
        y.club(0, 100, 5);
        y.war(0, true);
        check.due("report of one PUT OFF", y.report(0), 2);
    }

    private static void commercialCause() {
        Exportcover x = Office.plain();
        x.ship(0, 0, 100, 30, false);
        x.broke(0);
        x.pass(30);
        check.due("CAUSE", x.ofShipment(0, 10), 1);
        x.pass(1);
        x.stop(0, true);
        check.due("TROUBLE behind DUE", x.ofShipment(0, 10), 1);
    }

    private static void politicalCause() {
        Exportcover x = Office.plain();
        x.ship(0, 0, 100, 30, false);
        x.pass(30);
        x.stop(0, true);
        check.due("TROUBLE on DUE", x.ofShipment(0, 10), 2);
        x.broke(0);
        check.due("BROKE on that DAY", x.ofShipment(0, 10), 2);
        x.stop(0, false);
        check.due("not STOPPED any more", x.ofShipment(0, 10), 1);
        check.due("report", x.report(0), 1);
    }

    /** TROUBLE on DAY p and BROKE on DAY b, with DUE on DAY 100. */
    private static void causeByDays() {
        int[] days = {0, 1, 50, 99, 100, 101};
        for (int p : days) {
            for (int b : days) {
                Exportcover x = Office.plain();
                x.ship(0, 0, 100, 100, false);
                for (int day = 0; day <= 101; day++) {
                    if (day == p) {
                        x.war(0, true);
                    }
                    if (day == b) {
                        x.broke(0);
                    }
                    x.pass(1);
                }
                int due = p <= 100 && b >= p ? 2 : 1;
                check.due("CAUSE with p " + p + " and b " + b, x.ofShipment(0, 10), due);
                check.due("when with p " + p + " and b " + b, x.when(0), due == 2 ? 190 : 130);
            }
        }
    }

    private static void disputes() {
        Exportcover x = Office.plain();
        x.ship(0, 0, 5000, 30, false);
        x.ship(0, 0, 10000, 30, false);
        x.ship(0, 0, 10, 30, true);
        check.noIndex(x, "dispute(3)", () -> x.dispute(3));
        check.noIndex(x, "dispute(-1)", () -> x.dispute(-1));
        check.noIndex(x, "judge(3, true)", () -> x.judge(3, true));
        check.noIndex(x, "judge(-1, true)", () -> x.judge(-1, true));
        check.noState(x, "judge without a DISPUTE", () -> x.judge(0, true));
        check.due("dispute", x.dispute(0), 5000);
        check.noState(x, "dispute again", () -> x.dispute(0));
        check.due("judge for the EXPORTER", x.judge(0, true), 5000);
        check.noState(x, "judge again", () -> x.judge(0, true));
        check.due("dispute", x.dispute(1), 7000);
        int premiums = x.books(11);
        check.due("judge for the BUYER", x.judge(1, false), 0);
        check.due("INSURED", x.ofShipment(1, 6), 0);
        check.due("PREMIUM stays", x.ofShipment(1, 9), 6);
        check.due("REASON stays", x.ofShipment(1, 7), 7);
        check.due("PREMIUMS stay", x.books(11), premiums);
        check.due("AT RISK", x.granted(0, 0, false), 5000);
        check.due("dispute of what is not INSURED", x.dispute(1), 0);
        check.due("judge for the EXPORTER", x.judge(1, true), 0);
        x.dispute(2);
        x.inspect(2);
        check.due("judge of a VOID one", x.judge(2, true), 0);
        check.noState(x, "dispute of a VOID one", () -> x.dispute(2));
        x.pass(30);
        x.dispute(0);
        x.club(0, 50, 2);
        check.due("in DISPUTE, PUT OFF", x.ofShipment(0, 11), 2 + 8);
        check.due("judge of one PUT OFF", x.judge(0, false), 0);
        check.noState(x, "dispute of one PUT OFF", () -> x.dispute(0));
        Exportcover y = Office.claimed();
        check.noState(y, "dispute of one CLAIMED", () -> y.dispute(0));
    }

    private static Exportcover reported(boolean isBroke, boolean isStopped) {
        Exportcover x = Office.plain();
        x.ship(0, 0, 1000, 30, false);
        x.pass(30);
        if (isStopped) {
            x.stop(0, true);
        }
        if (isBroke) {
            x.broke(0);
        }
        x.report(0);
        return x;
    }

    private static void dueClaimFrom(Exportcover x, int waiting) {
        check.due("when", x.when(0), 30 + waiting);
        x.pass(waiting - 1);
        check.noState(x, "claim a DAY early", () -> x.claim(0));
        x.pass(1);
        check.due("claim", x.claim(0), 900);
        check.due("when of one CLAIMED", x.when(0), -1);
    }

    private static void waiting() {
        dueClaimFrom(reported(false, false), 180);
        dueClaimFrom(reported(true, false), 30);
        dueClaimFrom(reported(false, true), 90);
        dueClaimFrom(reported(true, true), 90);
    }

    /** The CAUSE as it is when one CLAIMS counts, not that of the report. */
    private static void waitingChanges() {
        Exportcover x = reported(false, true);
        x.pass(90);
        x.stop(0, false);
        check.noState(x, "claim, once not STOPPED any more", () -> x.claim(0));
        x.broke(0);
        check.due("claim, once BROKE", x.claim(0), 900);
    }

    private static void whatCanNotBeClaimed() {
        Exportcover x = Office.plain();
        x.ship(0, 0, 1000, 30, false);
        x.pass(300);
        check.noIndex(x, "claim(1)", () -> x.claim(1));
        check.noIndex(x, "claim(-1)", () -> x.claim(-1));
        check.noState(x, "claim, not REPORTED", () -> x.claim(0));
        x.report(0);
        x.dispute(0);
        check.due("when in DISPUTE", x.when(0), -1);
        check.noState(x, "claim in DISPUTE", () -> x.claim(0));
        x.judge(0, true);
        check.due("claim", x.claim(0), 900);
        check.noState(x, "claim again", () -> x.claim(0));

        Exportcover lost = reported(false, false);
        lost.pass(300);
        lost.dispute(0);
        lost.judge(0, false);
        check.due("when not INSURED", lost.when(0), -1);
        check.noState(lost, "claim, not INSURED", () -> lost.claim(0));

        Exportcover paid = reported(false, false);
        paid.pass(300);
        paid.earn(0, 1000);
        paid.pay(0, 1000);
        check.due("when nothing is LEFT", paid.when(0), -1);
        check.noState(paid, "claim, nothing LEFT", () -> paid.claim(0));

        Exportcover off = reported(false, false);
        off.pass(300);
        off.club(0, 100, 3);
        check.due("when PUT OFF", off.when(0), -1);
        check.noState(off, "claim, PUT OFF", () -> off.claim(0));

        Exportcover fake = Office.plain();
        fake.ship(0, 0, 1000, 30, true);
        fake.ship(0, 0, 1000, 30, true);
        fake.pass(300);
        fake.report(0);
        fake.report(1);
        fake.inspect(0);
        check.due("when VOID", fake.when(0), -1);
        check.noState(fake, "claim, VOID", () -> fake.claim(0));
        check.due("claim, FAKE, not VOID", fake.claim(1), 900);
    }

    private static void splitting() {
        Exportcover x = Office.plain();
        x.limit(0, 0, 700);
        x.ship(0, 0, 1000, 30, false);
        x.pass(210);
        x.report(0);
        int office = x.books(7);
        int rival = x.books(9);
        int exporter = x.ofExporter(0, 0);
        check.due("claim", x.claim(0), 630);
        check.due("LOSS", x.ofShipment(0, 12), 1000);
        check.due("GROSS", x.ofShipment(0, 13), 630);
        check.due("LEFT", x.ofShipment(0, 5), 1000);
        check.due("CLAIMED, REPORTED", x.ofShipment(0, 11), 5);
        check.due("PART of the EXPORTER", x.part(0, 0, false), 370);
        check.due("PART of the OFFICE", x.part(0, 1, false), 441);
        check.due("PART of the RIVAL", x.part(0, 2, false), 189);
        check.due("CHEST of the OFFICE", x.books(7) - office, -441);
        check.due("CHEST of the RIVAL", x.books(9) - rival, -189);
        check.due("CHEST of the EXPORTER", x.ofExporter(0, 0) - exporter, 630);
        check.due("CLAIMS", x.books(12), 441);
        check.due("BALANCE", x.books(14), x.books(7));
        check.due("AT RISK", x.granted(0, 0, false), 0);
        check.due("CLAIMED ones", x.books(15), 1);

        Exportcover few = Office.plain();
        few.policy(0, 95, -1, 0);
        few.limit(1, 0, 700);
        few.ship(1, 0, 1000, 30, false);
        few.earn(0, 901);
        few.pay(0, 901);
        few.pass(210);
        few.report(0);
        check.due("claim of the LEFT", few.claim(0), 94);
        check.due("LOSS", few.ofShipment(0, 12), 99);
        check.due("PART of the EXPORTER", few.part(0, 0, false), 5);
        check.due("PART of the OFFICE", few.part(0, 1, false), 94);
        check.due("PART of the RIVAL", few.part(0, 2, false), 0);
        check.due("CHEST of RIVAL 0", few.books(8), 0);

        Exportcover least = Office.plain();
        least.ship(0, 0, 1, 30, false);
        least.pass(210);
        check.due("CAUSE of a cent", least.ofShipment(0, 10), 1);
        check.due("report of a cent", least.report(0), 1);
        check.due("claim of a cent", least.claim(0), 0);
        check.due("CLAIMED", least.ofShipment(0, 11), 5);
        check.due("PART of the EXPORTER", least.part(0, 0, false), 1);
        check.due("isSound()", least.isSound(), true);
    }

    private static void when() {
        Exportcover x = Office.plain();
        x.ship(0, 0, 1000, 100, false);
        check.due("when, at first", x.when(0), 280);
        x.pass(10);
        x.stop(0, true);
        check.due("when, STOPPED", x.when(0), 190);
        x.broke(0);
        check.due("when, BROKE on that DAY", x.when(0), 190);
        x.stop(0, false);
        check.due("when, BROKE alone", x.when(0), 130);
        x.pass(1);
        x.war(0, true);
        check.due("when, at WAR later", x.when(0), 130);
        check.noIndex(x, "when(1)", () -> x.when(1));
        check.noIndex(x, "when(-1)", () -> x.when(-1));
        Exportcover late = Office.plain();
        late.pass(720);
        late.ship(0, 0, 1000, 3600, false);
        check.due("when, far off", late.when(0), 4500);
        Exportcover none = Office.plain();
        none.limit(0, 0, 0);
        none.ship(0, 0, 1000, 30, false);
        check.due("when not INSURED", none.when(0), -1);
    }
}
