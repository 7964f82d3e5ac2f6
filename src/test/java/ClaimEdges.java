/** The edges of chapter 5, and of promises 20 to 23 and 41: causes, reports, disputes and claims. */
final class ClaimEdges {
    private final Sentences said;

    ClaimEdges(Sentences said) {
        this.said = said;
    }

    void run() {
        political();
        commercial();
        noCause();
        waitingOfPolitical();
        waitingOfCommercial();
        toBeReported();
        judgedForTheBuyer();
        premiumAndReasonStay();
        toClaim();
        grossAndShare();
        whoPays();
        claimedThen();
        parts();
        causeOfAReport();
        reportOfNone();
        whatCanNotBeReported();
        insuredInDispute();
        disputeOfNone();
        whatCanNotBeDisputed();
        runJudgements();
    }

    private void runJudgements() {
        insuredThen();
        judgeOfNone();
        whatCanNotBeJudged();
        whatCanBeJudged();
        grossOfAClaim();
        claimOfNone();
        whatCanNotBeClaimed();
        fromWhenOn();
        neverWhen();
        whenOfNone();
    }

    /** SHIPMENT 0 of 10 is DUE on DAY 30; it is DAY 33. On DAY p there was TROUBLE, on DAY b the BUYER went BROKE. */
    private static Exportcover onDays(int p, int b) {
        Exportcover x = Office.plain();
        x.ship(0, 0, 10, 30, false);
        for (int day = 0; day < 33; day++) {
            if (day == p) {
                x.stop(0, true);
            }
            if (day == b) {
                x.broke(0);
            }
            x.pass(1);
        }
        return x;
    }

    private void political() {
        Check check = said.chapter(5, "CAUSE of a SHIPMENT that is DUE (DAY is DUE or more) with LEFT above 0: with b "
            + "as the DAY on which the BUYER went BROKE and p as TROUBLE of the LAND: 2 (political), if there is p, p "
            + "is no more than DUE, and either there is no b, or b is not below p;");
        check.due("TROUBLE on DAY 0", onDays(0, -1).ofShipment(0, 10), 2);
        check.due("TROUBLE on DUE", onDays(30, -1).ofShipment(0, 10), 2);
        check.due("BROKE on the same DAY", onDays(30, 30).ofShipment(0, 10), 2);
        check.due("BROKE on the same DAY 0", onDays(0, 0).ofShipment(0, 10), 2);
        check.due("BROKE a DAY later", onDays(30, 31).ofShipment(0, 10), 2);
        Exportcover x = Office.plain();
        x.ship(0, 0, 10, 30, false);
        x.earn(0, 10);
        x.pay(0, 9);
        x.stop(0, true);
        x.pass(29);
        check.due("CAUSE a DAY ahead of DUE", x.ofShipment(0, 10), 0);
        x.pass(1);
        check.due("CAUSE on DUE, a cent LEFT", x.ofShipment(0, 10), 2);
        x.stop(0, false);
        check.due("CAUSE, once there is no TROUBLE", x.ofShipment(0, 10), 1);
    }

    private void commercial() {
        Check check = said.chapter(5, "otherwise 1 (commercial).");
        check.due("neither of them", onDays(-1, -1).ofShipment(0, 10), 1);
        check.due("BROKE on DAY 0", onDays(-1, 0).ofShipment(0, 10), 1);
        check.due("TROUBLE a DAY behind DUE", onDays(31, -1).ofShipment(0, 10), 1);
        check.due("both a DAY behind DUE", onDays(31, 31).ofShipment(0, 10), 1);
        check.due("BROKE a DAY ahead of TROUBLE on DUE", onDays(30, 29).ofShipment(0, 10), 1);
        check.due("BROKE a DAY ahead of TROUBLE on DAY 1", onDays(1, 0).ofShipment(0, 10), 1);
    }

    private void noCause() {
        Check check = said.chapter(5, "0, if it is not so.");
        Exportcover x = Office.plain();
        x.ship(0, 0, 10, 30, false);
        x.broke(0);
        check.due("CAUSE on the DAY on which it SAILED", x.ofShipment(0, 10), 0);
        x.pass(29);
        check.due("CAUSE a DAY ahead of DUE", x.ofShipment(0, 10), 0);
        Exportcover paid = Office.due(10);
        check.due("CAUSE on DUE", paid.ofShipment(0, 10), 1);
        paid.earn(0, 10);
        paid.pay(0, 10);
        check.due("CAUSE, nothing LEFT", paid.ofShipment(0, 10), 0);
        Exportcover forgiven = Office.due(9);
        forgiven.club(0, 10, 1);
        check.due("CAUSE, all FORGIVEN", forgiven.ofShipment(0, 10), 0);
    }

    private static void dueClaimFrom(Check check, Exportcover x, int waiting) {
        x.report(0);
        x.pass(waiting - 1);
        check.noState(x, "claim a DAY early", () -> x.claim(0));
        x.pass(1);
        check.due("claim on that DAY", x.claim(0), 900);
    }

    private void waitingOfPolitical() {
        Check check = said.chapter(5, "WAITING: 90 DAYS of a CAUSE of 2;");
        Exportcover stopped = Office.due(1000);
        stopped.stop(0, true);
        dueClaimFrom(check, stopped, 90);
        Exportcover both = Office.due(1000);
        both.war(0, true);
        both.broke(0);
        dueClaimFrom(check, both, 90);
    }

    private void waitingOfCommercial() {
        Check check = said.chapter(5, "of 1 30, if the BUYER is BROKE, and 180, if not.");
        Exportcover broke = Office.due(1000);
        broke.broke(0);
        dueClaimFrom(check, broke, 30);
        dueClaimFrom(check, Office.due(1000), 180);
        Exportcover late = Office.due(1000);
        late.pass(1);
        late.stop(0, true);
        dueClaimFrom(check, late, 179);
    }

    private void toBeReported() {
        Check check = said.chapter(5, "A SHIPMENT is to be REPORTED (from DUE on, LEFT above 0).");
        Exportcover x = Office.plain();
        x.ship(0, 0, 10, 30, false);
        x.pass(29);
        check.noState(x, "report a DAY ahead of DUE", () -> x.report(0));
        x.pass(1);
        check.due("report on DUE", x.report(0), 1);
        Exportcover cent = Office.due(10);
        cent.earn(0, 10);
        cent.pay(0, 9);
        check.due("report of a cent", cent.report(0), 1);
        Exportcover paid = Office.due(10);
        paid.earn(0, 10);
        paid.pay(0, 10);
        check.noState(paid, "report of nothing", () -> paid.report(0));
        Exportcover late = Office.plain();
        late.ship(0, 0, 10, 3600, false);
        Office.passTo(late, 7200);
        check.due("report on the last DAY", late.report(0), 1);
    }

    private void judgedForTheBuyer() {
        Check check = said.chapter(5, "It can be in DISPUTE (told by a call), till that is judged: for the EXPORTER, "
            + "or for the BUYER (INSURED is 0 from then on;");
        Exportcover x = Office.reported(1000, 180);
        x.dispute(0);
        check.due("in DISPUTE", x.ofShipment(0, 11) & 2, 2);
        check.due("INSURED meanwhile", x.ofShipment(0, 6), 1000);
        check.due("AT RISK meanwhile", x.granted(0, 0, false), 1000);
        check.noState(x, "claim meanwhile", () -> x.claim(0));
        x.judge(0, true);
        check.due("judged", x.ofShipment(0, 11) & 2, 0);
        check.due("INSURED, for the EXPORTER", x.ofShipment(0, 6), 1000);
        x.dispute(0);
        x.judge(0, false);
        check.due("INSURED, for the BUYER", x.ofShipment(0, 6), 0);
        check.due("AT RISK", x.granted(0, 0, false), 0);
        check.noState(x, "claim of what is not INSURED", () -> x.claim(0));
        x.dispute(0);
        x.judge(0, true);
        check.due("INSURED from then on", x.ofShipment(0, 6), 0);
    }

    private void premiumAndReasonStay() {
        Check check = said.chapter(5, "PREMIUM and REASON stay).");
        Exportcover x = Office.plain();
        x.ship(0, 0, 12001, 30, false);
        int exporter = x.ofExporter(0, 0);
        x.dispute(0);
        x.judge(0, false);
        check.due("INSURED", x.ofShipment(0, 6), 0);
        check.due("PREMIUM", x.ofShipment(0, 9), 10);
        check.due("REASON", x.ofShipment(0, 7), 7);
        check.due("PREMIUM of the POLICY", x.ofPolicy(0, 6), 10);
        check.due("PREMIUMS", x.books(11), 7);
        check.due("the EXPORTER", x.ofExporter(0, 0), exporter);
    }

    /** All but one of what a CLAIM asks for, each time another one. */
    private void toClaim() {
        Check check = said.chapter(5, "To CLAIM for a SHIPMENT: it is OPEN, REPORTED, not in DISPUTE, LEFT and INSURED "
            + "are above 0, and DAY is no less than DUE and WAITING (of CAUSE as it is now) together: LOSS is LEFT;");
        Exportcover all = Office.reported(1000, 180);
        all.earn(0, 999);
        all.pay(0, 999);
        check.due("claim of the last cent", all.claim(0), 0);
        check.due("LOSS", all.ofShipment(0, 12), 1);
        check.noState(all, "claim of one CLAIMED", () -> all.claim(0));
        Exportcover putOff = Office.reported(1000, 180);
        putOff.club(0, 100, 1);
        check.noState(putOff, "claim of one PUT OFF", () -> putOff.claim(0));
        Exportcover isVoid = Office.plain();
        isVoid.ship(0, 0, 1000, 30, true);
        isVoid.pass(30);
        isVoid.report(0);
        isVoid.pass(180);
        isVoid.inspect(0);
        check.noState(isVoid, "claim of a VOID one", () -> isVoid.claim(0));
        Exportcover untold = Office.due(1000);
        untold.pass(180);
        check.noState(untold, "claim of one not REPORTED", () -> untold.claim(0));
        Exportcover disputed = Office.reported(1000, 180);
        disputed.dispute(0);
        check.noState(disputed, "claim of one in DISPUTE", () -> disputed.claim(0));
        Exportcover paid = Office.reported(1000, 180);
        paid.earn(0, 1000);
        paid.pay(0, 1000);
        check.noState(paid, "claim of nothing LEFT", () -> paid.claim(0));
        Exportcover bare = Office.plain();
        bare.limit(0, 0, 0);
        bare.ship(0, 0, 1000, 30, false);
        bare.pass(30);
        bare.report(0);
        bare.pass(180);
        check.noState(bare, "claim of nothing INSURED", () -> bare.claim(0));
        Exportcover early = Office.reported(1000, 179);
        check.noState(early, "claim a DAY early", () -> early.claim(0));
        early.broke(0);
        check.due("claim by the CAUSE as it is now", early.claim(0), 900);
        Exportcover late = Office.reported(1000, 180);
        Office.passTo(late, 7200);
        check.due("claim on the last DAY", late.claim(0), 900);
    }

    private void grossAndShare() {
        Check check = said.chapter(5,
            "GROSS is (the smaller one of INSURED and LEFT) * COVER / 100, SHARE of the RIVAL GROSS * QUOTA / 100.");
        int[][] rows = {{700, 0}, {700, 299}, {700, 300}, {700, 301}, {700, 999}, {1, 0}, {2, 0}, {1000, 0}};
        for (int[] each : rows) {
            Exportcover x = Office.plain();
            x.limit(0, 0, each[0]);
            x.ship(0, 0, 1000, 30, false);
            if (each[1] > 0) {
                x.earn(0, each[1]);
                x.pay(0, each[1]);
            }
            x.pass(30);
            x.report(0);
            x.pass(180);
            int gross = Math.min(each[0], 1000 - each[1]) * 90 / 100;
            check.due("GROSS of " + each[0] + " less " + each[1], x.claim(0), gross);
            check.due("SHARE", x.part(0, 2, false), gross * 30 / 100);
        }
    }

    private void whoPays() {
        Check check = said.chapter(5, "The OFFICE pays GROSS to the EXPORTER, and the RIVAL pays SHARE to the OFFICE.");
        int[][] rows = {{-1, 0, 0}, {0, 0, 0}, {0, 60, 540}, {1, 1, 9}};
        for (int[] each : rows) {
            Exportcover x = Office.claimed(90, each[0], each[1], 1000, 1000);
            check.due("CHEST of the EXPORTER", x.ofExporter(0, 0), 900 - 1);
            check.due("CHEST of RIVAL 0", x.books(8), each[0] == 0 ? -each[2] : 0);
            check.due("CHEST of RIVAL 1", x.books(9), each[0] == 1 ? -each[2] : 0);
            check.due("CHEST of the OFFICE", x.books(7), 1 - 900 + each[2]);
        }
    }

    private void claimedThen() {
        Check check = said.chapter(5, "It is CLAIMED then;");
        Exportcover x = Office.reported(1000, 180);
        check.due("ahead of it", x.ofShipment(0, 11), 1);
        x.claim(0);
        check.due("CLAIMED", x.ofShipment(0, 11), 1 + 4);
        check.due("LEFT stays", x.ofShipment(0, 5), 1000);
        Exportcover cent = Office.reported(1, 180);
        check.due("GROSS of a cent", cent.claim(0), 0);
        check.due("CLAIMED, though GROSS is 0", cent.ofShipment(0, 11), 1 + 4);
    }

    private void parts() {
        Check check = said.chapter(5,
            "its PARTS are: of the RIVAL SHARE, of the OFFICE GROSS less SHARE, of the EXPORTER what is left of LOSS.");
        dueParts(check, Office.claimed(), 370, 441, 189);
        dueParts(check, Office.claimed(90, 1, 30, 1, 1), 1, 0, 0);
        dueParts(check, Office.claimed(95, -1, 0, 1000, 1000), 50, 950, 0);
        dueParts(check, Office.claimed(50, 0, 60, 3, 3), 2, 1, 0);
        dueParts(check, Office.claimed(50, 0, 60, 4, 4), 2, 1, 1);
        dueParts(check, Office.claimed(95, 0, 60, 12000, 99999), 88599, 4560, 6840);
    }

    private static void dueParts(Check check, Exportcover x, int exporter, int office, int rival) {
        check.due("PART of the EXPORTER", x.part(0, 0, false), exporter);
        check.due("PART of the OFFICE", x.part(0, 1, false), office);
        check.due("PART of the RIVAL", x.part(0, 2, false), rival);
        check.due("isSound()", x.isSound(), true);
    }

    private void causeOfAReport() {
        Check check = said.promise(20, "Returns its CAUSE.");
        check.due("report, political", onDays(30, 30).report(0), 2);
        check.due("report, commercial", onDays(30, 29).report(0), 1);
        check.due("report without TROUBLE", onDays(-1, -1).report(0), 1);
    }

    private void reportOfNone() {
        Check check = said.promise(20, "Throws `IndexOutOfBoundsException` if there is no such SHIPMENT");
        Exportcover none = Office.plain();
        check.noIndexBeside(none, "report without a SHIPMENT", 0, shipment -> none.report(shipment));
        Exportcover x = Office.due(1);
        check.noIndexBeside(x, "report", 1, shipment -> x.report(shipment));
    }

    private void whatCanNotBeReported() {
        Check check = said.promise(20,
            "Throws `IllegalStateException` if it is not DUE, LEFT is 0, or it is REPORTED already");
        Exportcover early = Office.plain();
        early.ship(0, 0, 1, 30, false);
        check.noState(early, "report on DAY 0", () -> early.report(0));
        early.pass(29);
        check.noState(early, "report a DAY ahead of DUE", () -> early.report(0));
        early.pass(1);
        check.due("report on DUE", early.report(0), 1);
        check.noState(early, "report again", () -> early.report(0));
        early.pass(1);
        check.noState(early, "report again, a DAY later", () -> early.report(0));
        Exportcover paid = Office.plain();
        paid.ship(0, 0, 1, 30, false);
        paid.earn(0, 1);
        paid.pass(30);
        check.noState(paid, "report of nothing LEFT", () -> paid.report(0));
        Exportcover forgiven = Office.due(9);
        forgiven.club(0, 10, 1);
        check.noState(forgiven, "report of what is FORGIVEN", () -> forgiven.report(0));
    }

    private void insuredInDispute() {
        Check check = said.promise(21, "Returns its INSURED.");
        Exportcover x = Office.plain();
        x.ship(0, 0, 99999, 30, false);
        x.ship(0, 0, 1, 30, false);
        check.due("dispute of what is INSURED", x.dispute(0), 12000);
        check.due("dispute of what is not", x.dispute(1), 0);
    }

    private void disputeOfNone() {
        Check check = said.promise(21, "Throws `IndexOutOfBoundsException` if there is no such SHIPMENT");
        Exportcover none = Office.plain();
        check.noIndexBeside(none, "dispute without a SHIPMENT", 0, shipment -> none.dispute(shipment));
        Exportcover x = Office.due(1);
        check.noIndexBeside(x, "dispute", 1, shipment -> x.dispute(shipment));
    }

    /** A SHIPMENT that is paid is OPEN still, and so is one that is FAKE. */
    private void whatCanNotBeDisputed() {
        Check check = said.promise(21, "Throws `IllegalStateException` if it is not OPEN, or in DISPUTE already");
        Exportcover claimed = Office.claimed();
        check.noState(claimed, "dispute of one CLAIMED", () -> claimed.dispute(0));
        Exportcover putOff = Office.due(1);
        putOff.club(0, 100, 1);
        check.noState(putOff, "dispute of one PUT OFF", () -> putOff.dispute(0));
        Exportcover fake = Office.plain();
        fake.ship(0, 0, 1, 30, true);
        check.due("dispute of a FAKE one", fake.dispute(0), 1);
        check.noState(fake, "dispute of one in DISPUTE", () -> fake.dispute(0));
        fake.judge(0, true);
        fake.inspect(0);
        check.noState(fake, "dispute of a VOID one", () -> fake.dispute(0));
        Exportcover paid = Office.due(1);
        paid.earn(0, 1);
        paid.pay(0, 1);
        check.due("dispute of one paid", paid.dispute(0), 1);
    }

    private void insuredThen() {
        Check check = said.promise(22, "Returns its INSURED then.");
        Exportcover x = Office.due(7);
        x.dispute(0);
        check.due("judge for the EXPORTER", x.judge(0, true), 7);
        x.dispute(0);
        check.due("judge for the BUYER", x.judge(0, false), 0);
        x.dispute(0);
        check.due("judge for the EXPORTER, too late", x.judge(0, true), 0);
    }

    private void judgeOfNone() {
        Check check = said.promise(22, "Throws `IndexOutOfBoundsException` if there is no such SHIPMENT");
        Exportcover none = Office.plain();
        check.noIndexBeside(none, "judge without a SHIPMENT", 0, shipment -> none.judge(shipment, true));
        Exportcover x = Office.due(1);
        x.dispute(0);
        check.noIndexBeside(x, "judge", 1, shipment -> x.judge(shipment, false));
    }

    private void whatCanNotBeJudged() {
        Check check = said.promise(22, "Throws `IllegalStateException` if it is not in DISPUTE");
        Exportcover x = Office.due(1);
        check.noState(x, "judge of no DISPUTE", () -> x.judge(0, true));
        check.noState(x, "judge of no DISPUTE, for the BUYER", () -> x.judge(0, false));
        x.dispute(0);
        x.judge(0, true);
        check.noState(x, "judge of one judged", () -> x.judge(0, false));
        check.due("INSURED", x.ofShipment(0, 6), 1);
    }

    /** Only that it is in DISPUTE counts: not what became of it since. */
    private void whatCanBeJudged() {
        Check check = said.promise(22, "if it is not in DISPUTE");
        Exportcover x = Office.plain();
        x.ship(0, 0, 10, 30, true);
        x.ship(0, 0, 20, 30, false);
        x.ship(0, 0, 40, 30, false);
        x.ship(0, 0, 80, 30, false);
        for (int shipment = 0; shipment < 4; shipment++) {
            x.dispute(shipment);
        }
        x.earn(0, 20);
        x.pass(30);
        x.inspect(0);
        check.due("marks of one VOID since", x.ofShipment(0, 11), 2 + 16 + 32);
        check.due("LEFT of one paid since", x.ofShipment(1, 5), 0);
        x.club(0, 50, 2);
        check.due("marks of one PUT OFF since", x.ofShipment(2, 11), 2 + 8);
        check.due("judge of one VOID since", x.judge(0, true), 10);
        check.due("judge of one paid since", x.judge(1, false), 0);
        check.due("judge of one PUT OFF since", x.judge(2, true), 40);
        check.due("judge of another one PUT OFF since, for the BUYER", x.judge(3, false), 0);
        int[] marks = {16 + 32, 0, 8, 8};
        int[] insured = {10, 0, 40, 0};
        for (int shipment = 0; shipment < 4; shipment++) {
            int judged = shipment;
            check.due("marks of the judged " + judged, x.ofShipment(judged, 11), marks[judged]);
            check.due("INSURED of the judged " + judged, x.ofShipment(judged, 6), insured[judged]);
            check.noState(x, "judge of the judged " + judged, () -> x.judge(judged, false));
        }
        check.due("isSound", x.isSound(), true);
    }

    private void grossOfAClaim() {
        Check check = said.promise(23, "Returns GROSS.");
        check.due("claim of 1", Office.reported(1, 180).claim(0), 0);
        check.due("claim of 2", Office.reported(2, 180).claim(0), 1);
        check.due("claim of 12000", Office.reported(12000, 180).claim(0), 10800);
        check.due("claim of 99999, of which 12000 are INSURED", Office.reported(99999, 180).claim(0), 10800);
    }

    private void claimOfNone() {
        Check check = said.promise(23, "Throws `IndexOutOfBoundsException` if there is no such SHIPMENT");
        Exportcover none = Office.plain();
        check.noIndexBeside(none, "claim without a SHIPMENT", 0, shipment -> none.claim(shipment));
        Exportcover x = Office.reported(1, 180);
        check.noIndexBeside(x, "claim", 1, shipment -> x.claim(shipment));
    }

    private void whatCanNotBeClaimed() {
        Check check = said.promise(23, "Throws `IllegalStateException` if it can not be");
        Exportcover x = Office.plain();
        x.ship(0, 0, 10, 30, false);
        check.noState(x, "claim on DAY 0", () -> x.claim(0));
        x.pass(30);
        check.noState(x, "claim on DUE", () -> x.claim(0));
        x.report(0);
        check.noState(x, "claim as it is REPORTED", () -> x.claim(0));
        x.pass(179);
        check.noState(x, "claim a DAY early", () -> x.claim(0));
        x.pass(1);
        check.due("claim", x.claim(0), 9);
        check.noState(x, "claim again", () -> x.claim(0));
    }

    private void fromWhenOn() {
        Check check = said.promise(41, "Returns the DAY from which on one could CLAIM for it, as all is now (DUE and "
            + "WAITING of CAUSE, together, with CAUSE as it would be on the DAY on which it is DUE, or as it is now, "
            + "if that was);");
        Exportcover x = Office.plain();
        x.ship(0, 0, 10, 30, false);
        check.due("when on DAY 0", x.when(0), 30 + 180);
        x.pass(29);
        x.stop(0, true);
        check.due("when, STOPPED a DAY ahead of DUE", x.when(0), 30 + 90);
        x.broke(0);
        check.due("when, BROKE on the same DAY", x.when(0), 30 + 90);
        x.stop(0, false);
        check.due("when, BROKE alone", x.when(0), 30 + 30);
        x.pass(1);
        x.stop(0, true);
        check.due("when, STOPPED on DUE, BROKE ahead of it", x.when(0), 30 + 30);
        Exportcover onDue = Office.due(10);
        onDue.war(0, true);
        check.due("when, at WAR on DUE", onDue.when(0), 30 + 90);
        Exportcover behind = Office.due(10);
        behind.pass(1);
        behind.war(0, true);
        check.due("when, at WAR a DAY behind DUE", behind.when(0), 30 + 180);
        Exportcover late = Office.plain();
        Office.passTo(late, 7200);
        late.ship(0, 0, 10, 3600, false);
        check.due("when, far behind the last DAY", late.when(0), 10800 + 180);
        Exportcover past = Office.due(10);
        Office.passTo(past, 7200);
        check.due("when, long ago", past.when(0), 210);
    }

    private void neverWhen() {
        Check check = said.promise(41, "NONE, if it is not OPEN, is in DISPUTE, or LEFT or INSURED is 0.");
        check.due("when, CLAIMED", Office.claimed().when(0), -1);
        Exportcover putOff = Office.due(1);
        putOff.club(0, 100, 1);
        check.due("when, PUT OFF", putOff.when(0), -1);
        Exportcover fake = Office.plain();
        fake.ship(0, 0, 1, 30, true);
        check.due("when, FAKE", fake.when(0), 210);
        fake.inspect(0);
        check.due("when, VOID", fake.when(0), -1);
        Exportcover disputed = Office.due(1);
        disputed.dispute(0);
        check.due("when, in DISPUTE", disputed.when(0), -1);
        disputed.judge(0, true);
        check.due("when, for the EXPORTER", disputed.when(0), 210);
        disputed.dispute(0);
        disputed.judge(0, false);
        check.due("when, for the BUYER", disputed.when(0), -1);
        Exportcover paid = Office.due(2);
        paid.earn(0, 2);
        paid.pay(0, 1);
        check.due("when, a cent LEFT", paid.when(0), 210);
        paid.pay(0, 1);
        check.due("when, nothing LEFT", paid.when(0), -1);
        Exportcover bare = Office.plain();
        bare.limit(0, 0, 1);
        bare.ship(0, 0, 1, 30, false);
        bare.ship(0, 0, 1, 30, false);
        check.due("when, a cent INSURED", bare.when(0), 210);
        check.due("when, nothing INSURED", bare.when(1), -1);
    }

    private void whenOfNone() {
        Check check = said.promise(41, "Throws `IndexOutOfBoundsException` if there is no such SHIPMENT");
        Exportcover none = Office.plain();
        check.noIndexBeside(none, "when without a SHIPMENT", 0, shipment -> none.when(shipment));
        Exportcover x = Office.due(1);
        check.noIndexBeside(x, "when", 1, shipment -> x.when(shipment));
    }
}
