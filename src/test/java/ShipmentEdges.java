/** The edges of chapter 4 as to the terms of SHIPMENTS, and of promises 18, 35 and 40. */
final class ShipmentEdges {
    private final Sentences said;

    ShipmentEdges(Sentences said) {
        this.said = said;
    }

    void run() {
        atMost48();
        amounts();
        dueDay();
        left();
        fakeIsNeverPaid();
        termsAreKept();
        ended();
        closed();
        troubled();
        broke();
        overdueDays();
        overdueOfWhatKind();
        longerThanTheLongest();
        roomAndSpaceAtLeast();
        insuredNoMore();
        reasonOfLess();
        atRiskOfOne();
        atRiskTogether();
        premiumOfLittle();
        premiumOfTheRival();
        in64Bits();
        runTerms();
    }

    private void runTerms() {
        sailsUninsured();
        numberOfAShipment();
        shipOfNobody();
        shipBeside();
        shipment49();
        whatOfAShipment();
        ofShipmentOfNone();
        ofShipmentBeside();
        wouldInsureWith48();
        wouldInsureOfNobody();
        wouldInsureBeside();
    }

    private static void dueInsured(Check check, Exportcover x, int amount, int insured, int reason) {
        check.due("wouldInsure of " + amount, x.wouldInsure(0, 0, amount, 30, false), insured);
        check.due("REASON of " + amount, x.wouldInsure(0, 0, amount, 30, true), reason);
    }

    private void atMost48() {
        Check check = said.chapter(4, "SHIPMENTS: at most 48, numbered from 0");
        Exportcover x = Office.plain();
        for (int i = 0; i < 48; i++) {
            check.due("ship", x.ship(0, 0, 1, 30, i % 2 == 0), i);
        }
        check.noState(x, "a 49th SHIPMENT", () -> x.ship(0, 0, 1, 30, false));
        check.due("SHIPMENTS", x.books(6), 48);
    }

    private void amounts() {
        Check check = said.chapter(4, "with an AMOUNT (1 to 99999)");
        Exportcover x = Office.plain();
        check.noArgument(x, "an AMOUNT of 0", () -> x.ship(0, 0, 0, 30, false));
        check.noArgument(x, "an AMOUNT of 100000", () -> x.ship(0, 0, 100000, 30, false));
        x.ship(0, 0, 1, 30, false);
        x.ship(0, 0, 99999, 30, false);
        check.due("the least AMOUNT", x.ofShipment(0, 2), 1);
        check.due("the highest AMOUNT", x.ofShipment(1, 2), 99999);
    }

    private void dueDay() {
        Check check = said.chapter(4, "It is DUE on the DAY on which it SAILED and TERM, together.");
        Exportcover x = Office.plain();
        x.ship(0, 0, 1, 30, false);
        check.due("DUE of DAY 0 and 30", x.ofShipment(0, 4), 30);
        Office.passTo(x, 7200);
        x.ship(0, 0, 1, 3600, false);
        check.due("SAILED on the last DAY", x.ofShipment(1, 3), 7200);
        check.due("DUE of DAY 7200 and 3600", x.ofShipment(1, 4), 10800);
    }

    private void left() {
        Check check = said.chapter(4, "LEFT is AMOUNT at first, and less by what is PAID, RECOVERED and FORGIVEN");
        Exportcover x = Office.plain();
        x.ship(0, 0, 1000, 30, false);
        check.due("LEFT at first", x.ofShipment(0, 5), 1000);
        x.earn(0, 99);
        x.pay(0, 99);
        check.due("LEFT, less by what is PAID", x.ofShipment(0, 5), 901);
        x.pass(30);
        x.report(0);
        x.pass(180);
        x.claim(0);
        check.due("LEFT, CLAIMED", x.ofShipment(0, 5), 901);
        x.salvage(0, 1);
        check.due("LEFT, less by what is RECOVERED", x.ofShipment(0, 5), 900);
        x.club(0, 33, 2);
        check.due("LEFT, less by what is FORGIVEN", x.ofShipment(0, 5), 297);
        x.pass(510);
        check.due("LEFT in the end", x.ofShipment(0, 5), 0);
    }

    private void fakeIsNeverPaid() {
        Check check = said.chapter(4, "(a FAKE one is never PAID)");
        Exportcover x = Office.plain();
        x.ship(0, 0, 100, 30, true);
        x.earn(0, 1000);
        check.due("pay", x.pay(0, 1000), 0);
        x.pass(30);
        check.due("LEFT behind DUE", x.ofShipment(0, 5), 100);
        check.due("pay behind DUE", x.pay(0, 1000), 0);
        check.due("CHEST", x.ofBuyer(0, 3), 1000);
    }

    private void termsAreKept() {
        Check check = said.chapter(4,
            "Its terms are kept as they are on that DAY: COVER, QUOTA, RIVAL, RATE, and INSURED with a REASON:");
        Exportcover x = Office.ofClass(3);
        x.ship(0, 0, 12000, 30, false);
        x.ship(0, 0, 12000, 30, false);
        x.vote(0, 7, 7, 7);
        x.notice(0, 1);
        x.cut(0, 0, 0);
        x.ceiling(0, 0);
        x.bribe(0);
        x.pass(1);
        check.due("RATE", x.ofShipment(0, 8), 8 + 27 + 4);
        check.due("INSURED", x.ofShipment(0, 6), 12000);
        check.due("REASON", x.ofShipment(0, 7), 0);
        check.due("INSURED, no ROOM", x.ofShipment(1, 6), 0);
        check.due("REASON, no ROOM", x.ofShipment(1, 7), 7);
        x.pass(209);
        x.report(0);
        check.due("GROSS by COVER", x.claim(0), 10800);
        check.due("SHARE by QUOTA", x.part(0, 2, false), 3240);
    }

    /** All that speaks against a SHIPMENT from this REASON on, and nothing ahead of it. */
    private static Exportcover against(int reason) {
        Exportcover x = Office.ofClass(7);
        x.ship(0, 0, 50, 30, false);
        x.pass(91);
        x.cut(0, 0, 0);
        if (reason > 5) {
            x.report(0);
        }
        if (reason <= 4) {
            x.broke(0);
        }
        if (reason <= 3) {
            x.war(0, true);
        }
        if (reason <= 2) {
            x.close(0, true);
        }
        if (reason <= 1) {
            x.bribe(0);
        }
        return x;
    }

    private static void dueAgainst(Check check, Exportcover x, int reason) {
        check.due("REASON that would be", x.wouldInsure(0, 0, 100, 361, true), reason);
        check.due("what would be INSURED", x.wouldInsure(0, 0, 100, 361, false), 0);
        int sailed = x.ship(0, 0, 100, 361, false);
        check.due("REASON", x.ofShipment(sailed, 7), reason);
        check.due("INSURED", x.ofShipment(sailed, 6), 0);
        check.due("PREMIUM", x.ofShipment(sailed, 9), 0);
    }

    private void ended() {
        Check check = said.chapter(4,
            "the first of these that holds is the REASON, with INSURED 0: 1 the POLICY is ENDED;");
        dueAgainst(check, against(1), 1);
        Exportcover alone = Office.plain();
        alone.bribe(0);
        dueInsured(check, alone, 1, 0, 1);
    }

    private void closed() {
        Check check = said.chapter(4, "2 the LAND is CLOSED;");
        dueAgainst(check, against(2), 2);
        Exportcover alone = Office.plain();
        alone.close(0, true);
        dueInsured(check, alone, 1, 0, 2);
        alone.close(0, false);
        dueInsured(check, alone, 1, 1, 0);
    }

    private void troubled() {
        Check check = said.chapter(4, "3 the LAND is TROUBLED;");
        dueAgainst(check, against(3), 3);
        Exportcover alone = Office.plain();
        alone.stop(0, true);
        dueInsured(check, alone, 1, 0, 3);
        alone.stop(0, false);
        dueInsured(check, alone, 1, 1, 0);
    }

    private void broke() {
        Check check = said.chapter(4, "4 the BUYER is BROKE;");
        dueAgainst(check, against(4), 4);
        Exportcover alone = Office.plain();
        alone.broke(0);
        dueInsured(check, alone, 1, 0, 4);
    }

    private void overdueDays() {
        Check check = said.chapter(4, "5 cover is STOPPED: a SHIPMENT of that POLICY to that BUYER is OVERDUE (DAY is "
            + "more than DUE and 60 together, and LEFT is above 0;");
        dueAgainst(check, against(5), 5);
        Exportcover x = Office.plain();
        x.buyer(0, 0);
        x.policy(0, 50, -1, 0);
        x.limit(0, 1, 1);
        x.limit(1, 0, 1);
        x.ship(0, 0, 2, 30, false);
        x.pass(90);
        dueInsured(check, x, 1, 1, 0);
        x.pass(1);
        dueInsured(check, x, 1, 0, 5);
        check.due("another BUYER", x.wouldInsure(0, 1, 1, 30, true), 0);
        check.due("another POLICY", x.wouldInsure(1, 0, 1, 30, true), 0);
        x.earn(0, 2);
        x.pay(0, 1);
        dueInsured(check, x, 1, 0, 5);
        x.pay(0, 1);
        dueInsured(check, x, 1, 1, 0);
    }

    /** By a VOID one its POLICY is ENDED, which is the REASON ahead of it. */
    private void overdueOfWhatKind() {
        Check check = said.chapter(4, "also one that is FAKE, VOID or PUT OFF) and not REPORTED;");
        Exportcover fake = Office.plain();
        fake.ship(0, 0, 2, 30, true);
        fake.pass(91);
        dueInsured(check, fake, 1, 0, 5);
        fake.report(0);
        dueInsured(check, fake, 1, 1, 0);
        fake.inspect(0);
        dueInsured(check, fake, 1, 0, 1);
        Exportcover putOff = Office.due(2);
        putOff.club(0, 100, 1);
        putOff.pass(60);
        dueInsured(check, putOff, 1, 1, 0);
        putOff.pass(1);
        dueInsured(check, putOff, 1, 0, 5);
        putOff.pass(268);
        dueInsured(check, putOff, 1, 0, 5);
        putOff.pass(1);
        dueInsured(check, putOff, 1, 1, 0);
        Exportcover reported = Office.reported(2, 61);
        dueInsured(check, reported, 1, 1, 0);
        Exportcover second = Office.plain();
        second.ship(0, 0, 2, 30, false);
        second.ship(0, 0, 2, 30, false);
        second.pass(91);
        second.report(0);
        dueInsured(check, second, 1, 0, 5);
        second.report(1);
        dueInsured(check, second, 1, 1, 0);
    }

    private void longerThanTheLongest() {
        Check check = said.chapter(4, "6 TERM is more than the LONGEST.");
        dueAgainst(check, against(6), 6);
        int[][] rows = {{2, 3600}, {3, 1800}, {5, 1800}, {6, 360}, {7, 360}};
        for (int[] each : rows) {
            Exportcover x = Office.ofClass(each[0]);
            check.due("a TERM as long", x.wouldInsure(0, 0, 1, each[1], true), 0);
            check.due("INSURED then", x.wouldInsure(0, 0, 1, each[1], false), 1);
            if (each[1] < 3600) {
                check.due("a TERM longer by a DAY", x.wouldInsure(0, 0, 1, each[1] + 1, true), 6);
                check.due("INSURED then", x.wouldInsure(0, 0, 1, each[1] + 1, false), 0);
            }
            x.notice(0, 999);
            check.due("the longest one of all with a NOTICE", x.wouldInsure(0, 0, 1, 3600, true), 0);
        }
    }

    private void roomAndSpaceAtLeast() {
        Check check = said.chapter(4, "Otherwise ROOM is GRANTED less what is AT RISK under that POLICY for that "
            + "BUYER, and SPACE is the CEILING of the LAND less what is AT RISK there (each 0 at least);");
        Exportcover x = Office.plain();
        x.ship(0, 0, 600, 30, false);
        x.cut(0, 0, 601);
        dueInsured(check, x, 2, 1, 7);
        x.cut(0, 0, 600);
        dueInsured(check, x, 1, 0, 7);
        x.cut(0, 0, 500);
        dueInsured(check, x, 1, 0, 7);
        x.ceiling(0, 100);
        dueInsured(check, x, 1, 0, 7);
        x.limit(0, 0, 601);
        dueInsured(check, x, 1, 0, 8);
        x.ceiling(0, 600);
        dueInsured(check, x, 1, 0, 8);
        x.ceiling(0, 601);
        dueInsured(check, x, 1, 1, 0);
    }

    private void insuredNoMore() {
        Check check = said.chapter(4, "INSURED is AMOUNT, but no more than ROOM and SPACE;");
        for (int room = 0; room <= 3; room++) {
            for (int space = 0; space <= 3; space++) {
                Exportcover x = Office.plain();
                x.limit(0, 0, room);
                x.ceiling(0, space);
                for (int amount = 1; amount <= 4; amount++) {
                    int due = Math.min(amount, Math.min(room, space));
                    check.due("INSURED of " + amount, x.wouldInsure(0, 0, amount, 30, false), due);
                }
            }
        }
        Exportcover most = Office.plain();
        check.due("INSURED of the highest AMOUNT", most.wouldInsure(0, 0, 99999, 30, false), 12000);
    }

    private void reasonOfLess() {
        Check check = said.chapter(4,
            "REASON is 0, if that is AMOUNT, otherwise 7, if ROOM is no more than SPACE, and 8, if it is.");
        Exportcover x = Office.plain();
        x.limit(0, 0, 1000);
        x.ceiling(0, 1000);
        dueInsured(check, x, 1000, 1000, 0);
        dueInsured(check, x, 1001, 1000, 7);
        x.ceiling(0, 999);
        dueInsured(check, x, 999, 999, 0);
        dueInsured(check, x, 1000, 999, 8);
        dueInsured(check, x, 1001, 999, 8);
        x.ceiling(0, 1001);
        dueInsured(check, x, 1000, 1000, 0);
        dueInsured(check, x, 1001, 1000, 7);
        dueInsured(check, x, 1002, 1000, 7);
    }

    private void atRiskOfOne() {
        Check check = said.chapter(4, "AT RISK of a SHIPMENT is the smaller one of INSURED and LEFT, as long as it is "
            + "OPEN (neither CLAIMED nor PUT OFF nor VOID);");
        Exportcover x = Office.plain();
        x.limit(0, 0, 400);
        x.ship(0, 0, 1000, 30, false);
        check.due("INSURED, less than LEFT", x.granted(0, 0, false), 400);
        x.earn(0, 1000);
        x.pay(0, 600);
        check.due("INSURED and LEFT are the same", x.granted(0, 0, false), 400);
        x.pay(0, 1);
        check.due("LEFT, less than INSURED", x.granted(0, 0, false), 399);
        x.pay(0, 399);
        check.due("nothing LEFT", x.granted(0, 0, false), 0);
        check.due("CLAIMED", Office.claimed().granted(0, 0, false), 0);
        Exportcover putOff = Office.due(1000);
        check.due("not PUT OFF", putOff.granted(0, 0, false), 1000);
        putOff.club(0, 100, 10);
        check.due("PUT OFF", putOff.granted(0, 0, false), 0);
        Exportcover fake = Office.plain();
        fake.ship(0, 0, 1000, 30, true);
        check.due("FAKE", fake.granted(0, 0, false), 1000);
        fake.inspect(0);
        check.due("VOID", fake.granted(0, 0, false), 0);
    }

    private void atRiskTogether() {
        Check check = said.chapter(4,
            "AT RISK under a POLICY for a BUYER, and in a LAND, is that of all such together.");
        Exportcover x = Office.plain();
        x.land(0, 999999);
        x.buyer(0, 0);
        x.buyer(1, 0);
        x.policy(0, 50, -1, 0);
        for (int policy = 0; policy < 2; policy++) {
            for (int buyer = 0; buyer < 3; buyer++) {
                x.limit(policy, buyer, 12000);
                check.due("AT RISK of none", x.granted(policy, buyer, false), 0);
            }
        }
        x.ship(0, 0, 1, 30, false);
        x.ship(0, 0, 2, 30, false);
        x.ship(0, 1, 4, 30, false);
        x.ship(0, 2, 8, 30, false);
        x.ship(1, 0, 16, 30, false);
        check.due("under 0 for 0", x.granted(0, 0, false), 1 + 2);
        check.due("under 0 for 1", x.granted(0, 1, false), 4);
        check.due("under 0 for 2", x.granted(0, 2, false), 8);
        check.due("under 1 for 0", x.granted(1, 0, false), 16);
        check.due("in LAND 0", x.ofLand(0, 6), 1 + 2 + 4 + 16);
        check.due("in LAND 1", x.ofLand(1, 6), 8);
    }

    private void premiumOfLittle() {
        Check check = said.chapter(4, "PREMIUM: INSURED * RATE / 10000, and 1, if that is 0 and INSURED is not: the "
            + "EXPORTER pays it to the OFFICE;");
        int[][] rows = {{0, 0}, {1, 1}, {4999, 1}, {5000, 1}, {9999, 1}, {10000, 2}, {12000, 2}};
        for (int[] each : rows) {
            Exportcover x = Office.plain();
            x.policy(0, 50, -1, 0);
            x.limit(1, 0, each[0]);
            x.notice(0, 2);
            x.ship(1, 0, 99999, 30, false);
            check.due("INSURED", x.ofShipment(0, 6), each[0]);
            check.due("PREMIUM of " + each[0], x.ofShipment(0, 9), each[1]);
            check.due("CHEST of the OFFICE", x.books(7), each[1]);
            check.due("CHEST of the EXPORTER", x.ofExporter(0, 0), -each[1]);
        }
    }

    private void premiumOfTheRival() {
        Check check = said.chapter(4, "of it the OFFICE pays PREMIUM * QUOTA / 100 to the RIVAL.");
        int[][] rows = {{1, 60, 0}, {3333, 60, 0}, {6667, 49, 0}, {6667, 50, 1}, {10000, 0, 0}, {10000, 33, 0},
            {10000, 34, 1}, {10000, 60, 1}};
        for (int[] each : rows) {
            Exportcover x = Office.plain();
            x.policy(0, 50, 1, each[1]);
            x.limit(1, 0, 12000);
            x.notice(0, 3);
            x.ship(1, 0, each[0], 30, false);
            int premium = x.ofShipment(0, 9);
            check.due("PREMIUM", premium, Math.max(1, each[0] * 3 / 10000));
            check.due("CHEST of the RIVAL", x.books(9), each[2]);
            check.due("CHEST of the other RIVAL", x.books(8), 0);
            check.due("CHEST of the OFFICE", x.books(7), premium - each[2]);
        }
    }

    /** No product of two amounts is larger: LOSS is 99999, and the PART of the OFFICE 95 hundredths of 12000. */
    private void in64Bits() {
        Check check = said.chapter(4, "(Products of two amounts are reckoned in 64 bits.)");
        Exportcover x = Office.claimed(95, -1, 0, 12000, 99999);
        check.due("PART of the OFFICE", x.part(0, 1, false), 11400);
        x.salvage(0, 99998);
        check.due("OFFICE had", x.part(0, 1, true), 99998L * 11400 / 99999);
        check.due("EXPORTER had", x.part(0, 0, true), 99998 - 99998L * 11400 / 99999);
        x.salvage(0, 1);
        check.due("OFFICE had", x.part(0, 1, true), 11400);
        check.due("EXPORTER had", x.part(0, 0, true), 88599);
    }

    private void sailsUninsured() {
        Check check = said.promise(18, "A SHIPMENT SAILS.");
        Exportcover x = Office.plain();
        x.bribe(0);
        check.due("ship under an ENDED POLICY", x.ship(0, 0, 1, 30, false), 0);
        x.close(0, true);
        x.broke(0);
        Office.passTo(x, 7200);
        check.due("ship on the last DAY", x.ship(0, 0, 1, 3600, true), 1);
        check.due("PREMIUM", x.ofShipment(1, 9), 0);
    }

    private void numberOfAShipment() {
        Check check = said.promise(18, "Returns its number.");
        Exportcover x = Office.plain();
        x.policy(0, 50, -1, 0);
        check.due("the first SHIPMENT", x.ship(1, 0, 1, 30, true), 0);
        check.due("the second SHIPMENT", x.ship(0, 0, 1, 30, false), 1);
        check.due("POLICY of the first", x.ofShipment(0, 0), 1);
        check.due("POLICY of the second", x.ofShipment(1, 0), 0);
    }

    private static Exportcover withoutBuyer() {
        Exportcover x = new Exportcover();
        x.exporter();
        x.policy(0, 50, -1, 0);
        return x;
    }

    private static Exportcover withoutPolicy() {
        Exportcover x = new Exportcover();
        x.land(0, 0);
        x.buyer(0, 0);
        return x;
    }

    private void shipOfNobody() {
        Check check = said.promise(18, "Throws `IndexOutOfBoundsException` if there is no such POLICY, or BUYER");
        Exportcover none = withoutPolicy();
        check.noIndexBeside(none, "ship without a POLICY", 0, policy -> none.ship(policy, 0, 1, 30, false));
        Exportcover alone = withoutBuyer();
        check.noIndexBeside(alone, "ship without a BUYER", 0, buyer -> alone.ship(0, buyer, 1, 30, false));
        Exportcover x = Office.plain();
        check.noIndexBeside(x, "ship, POLICY", 1, policy -> x.ship(policy, 0, 1, 30, false));
        check.noIndexBeside(x, "ship, BUYER", 1, buyer -> x.ship(0, buyer, 1, 30, false));
    }

    private void shipBeside() {
        Check check = said.promise(18,
            "Throws `IllegalArgumentException` if amount is not 1 to 99999, or term not 30 to 3600");
        Exportcover x = Office.plain();
        check.noArgumentBeside(x, "ship, AMOUNT", 1, 99999, amount -> x.ship(0, 0, amount, 30, false));
        check.noArgumentBeside(x, "ship, TERM", 30, 3600, term -> x.ship(0, 0, 1, term, true));
        check.due("ship(0, 0, 1, 3600)", x.ship(0, 0, 1, 3600, false), 0);
        check.due("ship(0, 0, 99999, 30)", x.ship(0, 0, 99999, 30, false), 1);
    }

    private void shipment49() {
        Check check = said.promise(18, "Throws `IllegalStateException` if there are 48");
        Exportcover x = Office.plain();
        for (int i = 0; i < 48; i++) {
            x.ship(0, 0, 10, 30, true);
        }
        check.due("the last one", x.ofShipment(47, 2), 10);
        check.noState(x, "a 49th SHIPMENT", () -> x.ship(0, 0, 10, 30, true));
        x.inspect(47);
        check.noState(x, "a 49th SHIPMENT, one VOID", () -> x.ship(0, 0, 10, 30, true));
    }

    private void whatOfAShipment() {
        Check check = said.promise(35, "0 its POLICY, 1 BUYER, 2 AMOUNT, 3 the DAY on which it SAILED, 4 DUE, 5 LEFT, "
            + "6 INSURED, 7 REASON, 8 RATE, 9 PREMIUM, 10 CAUSE, 11 the set of 1 REPORTED, 2 in DISPUTE, 4 CLAIMED, 8 "
            + "PUT OFF, 16 VOID, 32 FAKE (added up), 12 LOSS, 13 GROSS (12 and 13: 0, if it is not CLAIMED), 14 "
            + "RECOVERED, 15 FORGIVEN, 16 OWED (0, if it is not PUT OFF)");
        Exportcover x = Office.plain();
        x.limit(0, 0, 700);
        x.ship(0, 0, 1000, 30, false);
        dueShipment(check, x, 0, 0, 1000, 0, 30, 1000, 700, 7, 9, 1, 0, 0, 0, 0, 0, 0, 0);
        x.pass(30);
        x.report(0);
        x.dispute(0);
        dueShipment(check, x, 0, 0, 1000, 0, 30, 1000, 700, 7, 9, 1, 1, 1 + 2, 0, 0, 0, 0, 0);
        x.judge(0, true);
        x.pass(180);
        x.claim(0);
        x.salvage(0, 100);
        dueShipment(check, x, 0, 0, 1000, 0, 30, 900, 700, 7, 9, 1, 1, 1 + 4, 1000, 630, 100, 0, 0);
        x.club(0, 11, 1);
        dueShipment(check, x, 0, 0, 1000, 0, 30, 99, 700, 7, 9, 1, 1, 1 + 4 + 8, 1000, 630, 100, 801, 99);
        x.pass(150);
        dueShipment(check, x, 0, 0, 1000, 0, 30, 0, 700, 7, 9, 1, 0, 1 + 4 + 8, 1000, 630, 199, 801, 99);
        Exportcover fake = Office.claimedFake();
        check.due("FAKE, CLAIMED", fake.ofShipment(0, 11), 1 + 4 + 32);
        fake.inspect(0);
        dueShipment(check, fake, 0, 0, 1000, 0, 30, 1000, 700, 7, 9, 1, 1, 1 + 4 + 16 + 32, 1000, 630, 0, 0, 0);
    }

    private static void dueShipment(Check check, Exportcover x, int... due) {
        for (int what = 0; what < due.length; what++) {
            check.due("ofShipment(0, " + what + ")", x.ofShipment(0, what), due[what]);
        }
    }

    private void ofShipmentOfNone() {
        Check check = said.promise(35, "Throws `IndexOutOfBoundsException` if there is no such SHIPMENT");
        Exportcover none = Office.plain();
        check.noIndexBeside(none, "ofShipment without one", 0, shipment -> none.ofShipment(shipment, 0));
        Exportcover x = Office.due(1);
        check.noIndexBeside(x, "ofShipment", 1, shipment -> x.ofShipment(shipment, 0));
    }

    private void ofShipmentBeside() {
        Check check = said.promise(35, "Throws `IllegalArgumentException` if what is not 0 to 16");
        Exportcover x = Office.due(1);
        check.noArgumentBeside(x, "ofShipment", 0, 16, what -> x.ofShipment(0, what));
        check.due("ofShipment(0, 0)", x.ofShipment(0, 0), 0);
        check.due("ofShipment(0, 16)", x.ofShipment(0, 16), 0);
    }

    private void wouldInsureWith48() {
        Check check = said.promise(40, "Returns that of such a SHIPMENT, if it SAILED now (also if there are 48).");
        Exportcover x = Office.plain();
        check.due("REASON without a SHIPMENT", x.wouldInsure(0, 0, 12000, 30, true), 0);
        for (int i = 0; i < 48; i++) {
            x.ship(0, 0, 100, 30, false);
        }
        dueInsured(check, x, 7200, 7200, 0);
        dueInsured(check, x, 7201, 7200, 7);
        check.due("SHIPMENTS", x.books(6), 48);
    }

    private void wouldInsureOfNobody() {
        Check check = said.promise(40, "Throws `IndexOutOfBoundsException` if there is no such POLICY, or BUYER");
        Exportcover none = withoutPolicy();
        check.noIndexBeside(none, "wouldInsure without a POLICY", 0, p -> none.wouldInsure(p, 0, 1, 30, true));
        Exportcover alone = withoutBuyer();
        check.noIndexBeside(alone, "wouldInsure without a BUYER", 0, b -> alone.wouldInsure(0, b, 1, 30, true));
        Exportcover x = Office.plain();
        check.noIndexBeside(x, "wouldInsure, POLICY", 1, policy -> x.wouldInsure(policy, 0, 1, 30, false));
        check.noIndexBeside(x, "wouldInsure, BUYER", 1, buyer -> x.wouldInsure(0, buyer, 1, 30, false));
    }

    private void wouldInsureBeside() {
        Check check = said.promise(40,
            "Throws `IllegalArgumentException` if amount is not 1 to 99999, or term not 30 to 3600");
        Exportcover x = Office.plain();
        check.noArgumentBeside(x, "wouldInsure, AMOUNT", 1, 99999, amount -> x.wouldInsure(0, 0, amount, 30, true));
        check.noArgumentBeside(x, "wouldInsure, TERM", 30, 3600, term -> x.wouldInsure(0, 0, 1, term, false));
        check.due("wouldInsure of 1 for 3600", x.wouldInsure(0, 0, 1, 3600, false), 1);
        check.due("wouldInsure of 99999 for 30", x.wouldInsure(0, 0, 99999, 30, false), 12000);
    }
}
