/** The edges of chapter 3 as to POLICIES and LIMITS, and of promises 15 to 17, 33 and 34. */
final class PolicyEdges {
    private final Sentences said;

    PolicyEdges(Sentences said) {
        this.said = said;
    }

    void run() {
        atMostEight();
        covers();
        quotas();
        withoutARival();
        limits();
        cutToLess();
        numberOfAPolicy();
        noneIsWithoutOne();
        policyOfNobody();
        policyBeside();
        ninthPolicy();
        whatIsGranted();
        limitOfNobody();
        limitBeside();
        limitOfTheEnded();
        grantedNoMore();
        sailedBefore();
        howMuchLess();
        cutOfNobody();
        cutBelow();
        whatOfAPolicy();
        ofPolicyOfNone();
        ofPolicyBeside();
        grantedOrAtRisk();
        grantedOfNobody();
    }

    private static Exportcover oneExporter() {
        Exportcover x = new Exportcover();
        x.exporter();
        return x;
    }

    private void atMostEight() {
        Check check = said.chapter(3, "POLICIES: at most 8, numbered from 0");
        Exportcover x = oneExporter();
        for (int i = 0; i < 8; i++) {
            check.due("policy", x.policy(0, 50, -1, 0), i);
        }
        check.noState(x, "a ninth POLICY", () -> x.policy(0, 50, -1, 0));
        check.due("POLICIES", x.books(5), 8);
    }

    private void covers() {
        Check check = said.chapter(3, "with a COVER (50 to 95, in hundredths)");
        check.due("GROSS of 50", Office.claimed(50, -1, 0, 999, 999).ofShipment(0, 13), 499);
        check.due("GROSS of 95", Office.claimed(95, -1, 0, 999, 999).ofShipment(0, 13), 949);
        Exportcover x = oneExporter();
        check.noArgument(x, "a COVER of 49", () -> x.policy(0, 49, -1, 0));
        check.noArgument(x, "a COVER of 96", () -> x.policy(0, 96, -1, 0));
    }

    private void quotas() {
        Check check = said.chapter(3, "a RIVAL or none, and its QUOTA (0 to 60, in hundredths;");
        check.due("SHARE of 0", Office.claimed(50, 0, 0, 1000, 1000).part(0, 2, false), 0);
        check.due("SHARE of 1", Office.claimed(50, 0, 1, 1000, 1000).part(0, 2, false), 5);
        check.due("SHARE of 60", Office.claimed(50, 0, 60, 1000, 1000).part(0, 2, false), 300);
        Exportcover x = oneExporter();
        check.noArgument(x, "a QUOTA of -1", () -> x.policy(0, 50, 0, -1));
        check.noArgument(x, "a QUOTA of 61", () -> x.policy(0, 50, 0, 61));
    }

    private void withoutARival() {
        Check check = said.chapter(3, "0 without a RIVAL), ENDED or not.");
        Exportcover x = oneExporter();
        check.noArgument(x, "a QUOTA of 1 without a RIVAL", () -> x.policy(0, 50, -1, 1));
        check.due("a QUOTA of 0 without a RIVAL", x.policy(0, 50, -1, 0), 0);
        check.due("a QUOTA of 0 with a RIVAL", x.policy(0, 50, 1, 0), 1);
        check.due("RIVAL", x.ofPolicy(0, 2), -1);
        check.due("QUOTA", x.ofPolicy(0, 3), 0);
        check.due("ENDED at first", x.ofPolicy(0, 4), 0);
    }

    private void limits() {
        Check check = said.chapter(3,
            "LIMITS: of a POLICY for a BUYER: what is asked, but 2000 * (6 - GRADE) at most, is GRANTED (0 at first);");
        Exportcover x = Office.plain();
        for (int grade = 0; grade <= 5; grade++) {
            int buyer = x.buyer(0, grade);
            int most = 2000 * (6 - grade);
            check.due("GRANTED at first", x.granted(0, buyer, true), 0);
            check.due("asked for as much", x.limit(0, buyer, most), most);
            check.due("asked for one more", x.limit(0, buyer, most + 1), most);
            check.due("asked for all", x.limit(0, buyer, 99999), most);
            check.due("asked for one less", x.limit(0, buyer, most - 1), most - 1);
            check.due("asked for nothing", x.limit(0, buyer, 0), 0);
        }
    }

    private void cutToLess() {
        Check check = said.chapter(3, "it can be CUT to less.");
        Exportcover x = Office.plain();
        x.cut(0, 0, 12001);
        check.due("GRANTED, CUT to more", x.granted(0, 0, true), 12000);
        x.cut(0, 0, 12000);
        check.due("GRANTED, CUT to as much", x.granted(0, 0, true), 12000);
        x.cut(0, 0, 11999);
        check.due("GRANTED, CUT to less", x.granted(0, 0, true), 11999);
        x.cut(0, 0, 0);
        check.due("GRANTED, CUT to nothing", x.granted(0, 0, true), 0);
    }

    private void numberOfAPolicy() {
        Check check = said.promise(15, "Returns its number.");
        Exportcover x = oneExporter();
        x.exporter();
        check.due("the first POLICY", x.policy(1, 50, -1, 0), 0);
        check.due("the second POLICY", x.policy(0, 95, 1, 60), 1);
    }

    private void noneIsWithoutOne() {
        Check check = said.promise(15, "its RIVAL; NONE: without one");
        Exportcover x = Office.claimed(90, -1, 0, 1000, 1000);
        x.salvage(0, 1000);
        check.due("RIVAL", x.ofPolicy(0, 2), -1);
        check.due("CHEST of RIVAL 0", x.books(8), 0);
        check.due("CHEST of RIVAL 1", x.books(9), 0);
        check.due("PART of no RIVAL", x.part(0, 2, false), 0);
        check.due("no RIVAL had", x.part(0, 2, true), 0);
    }

    private void policyOfNobody() {
        Check check = said.promise(15,
            "Throws `IndexOutOfBoundsException` if there is no such EXPORTER, or rival is not -1 to 1");
        Exportcover none = new Exportcover();
        check.noIndexBeside(none, "policy without an EXPORTER", 0, exporter -> none.policy(exporter, 50, -1, 0));
        Exportcover x = oneExporter();
        check.noIndexBeside(x, "policy", 1, exporter -> x.policy(exporter, 50, -1, 0));
        int[] beside = {Integer.MIN_VALUE, -2, 2, Integer.MAX_VALUE};
        for (int rival : beside) {
            check.noIndex(x, "a RIVAL " + rival, () -> x.policy(0, 50, rival, 0));
        }
        for (int rival = -1; rival <= 1; rival++) {
            check.due("a RIVAL " + rival, x.policy(0, 50, rival, 0), rival + 1);
            check.due("RIVAL", x.ofPolicy(rival + 1, 2), rival);
        }
    }

    private void policyBeside() {
        Check check = said.promise(15, "Throws `IllegalArgumentException` if cover is not 50 to 95, quota not 0 to 60, "
            + "or above 0 without a RIVAL");
        Exportcover x = oneExporter();
        check.noArgumentBeside(x, "policy, COVER", 50, 95, cover -> x.policy(0, cover, 0, 0));
        check.noArgumentBeside(x, "policy, QUOTA", 0, 60, quota -> x.policy(0, 50, 0, quota));
        check.noArgumentBeside(x, "policy, QUOTA without a RIVAL", 0, 0, quota -> x.policy(0, 50, -1, quota));
        check.noArgument(x, "a QUOTA of 60 without a RIVAL", () -> x.policy(0, 50, -1, 60));
        check.due("policy(0, 50, 0, 60)", x.policy(0, 50, 0, 60), 0);
        check.due("policy(0, 95, 1, 0)", x.policy(0, 95, 1, 0), 1);
        check.due("policy(0, 95, -1, 0)", x.policy(0, 95, -1, 0), 2);
    }

    private void ninthPolicy() {
        Check check = said.promise(15, "Throws `IllegalStateException` if there are 8");
        Exportcover x = oneExporter();
        x.exporter();
        for (int i = 0; i < 8; i++) {
            x.policy(0, 50, -1, 0);
        }
        x.bribe(0);
        check.noState(x, "a ninth POLICY, eight ENDED", () -> x.policy(0, 50, -1, 0));
        check.noState(x, "a ninth POLICY of another EXPORTER", () -> x.policy(1, 50, -1, 0));
    }

    private void whatIsGranted() {
        Check check = said.promise(16, "Returns what is GRANTED.");
        Exportcover x = Office.plain();
        x.buyer(0, 5);
        check.due("limit above what there can be", x.limit(0, 1, 2001), 2000);
        check.due("GRANTED", x.granted(0, 1, true), 2000);
        check.due("limit below what there was", x.limit(0, 1, 1), 1);
        check.due("limit of nothing", x.limit(0, 1, 0), 0);
        check.due("GRANTED", x.granted(0, 1, true), 0);
        check.due("GRANTED for the other one", x.granted(0, 0, true), 12000);
    }

    private void limitOfNobody() {
        Check check = said.promise(16, "Throws `IndexOutOfBoundsException` if there is no such POLICY, or BUYER");
        Exportcover none = new Exportcover();
        none.land(0, 0);
        none.buyer(0, 0);
        check.noIndexBeside(none, "limit without a POLICY", 0, policy -> none.limit(policy, 0, 1));
        Exportcover alone = oneExporter();
        alone.policy(0, 50, -1, 0);
        check.noIndexBeside(alone, "limit without a BUYER", 0, buyer -> alone.limit(0, buyer, 1));
        Exportcover x = Office.plain();
        check.noIndexBeside(x, "limit, POLICY", 1, policy -> x.limit(policy, 0, 1));
        check.noIndexBeside(x, "limit, BUYER", 1, buyer -> x.limit(0, buyer, 1));
    }

    private void limitBeside() {
        Check check = said.promise(16, "Throws `IllegalArgumentException` if asked is not 0 to 99999");
        Exportcover x = Office.plain();
        check.noArgumentBeside(x, "limit", 0, 99999, asked -> x.limit(0, 0, asked));
        check.due("limit of 0", x.limit(0, 0, 0), 0);
        check.due("limit of 99999", x.limit(0, 0, 99999), 12000);
    }

    private void limitOfTheEnded() {
        Check check = said.promise(16, "Throws `IllegalStateException` if the POLICY is ENDED");
        Exportcover bribed = Office.plain();
        bribed.bribe(0);
        check.noState(bribed, "limit, ENDED by BRIBES", () -> bribed.limit(0, 0, 0));
        Exportcover fake = Office.plain();
        fake.policy(0, 50, -1, 0);
        fake.ship(0, 0, 1, 30, true);
        fake.inspect(0);
        check.noState(fake, "limit, ENDED by a FAKE", () -> fake.limit(0, 0, 99999));
        check.due("limit of another POLICY", fake.limit(1, 0, 99999), 12000);
    }

    private void grantedNoMore() {
        Check check = said.promise(17,
            "CUTS a LIMIT (that is: what is GRANTED is no more than that, till a LIMIT is asked again;");
        Exportcover x = Office.plain();
        x.cut(0, 0, 500);
        check.due("GRANTED", x.granted(0, 0, true), 500);
        x.cut(0, 0, 501);
        check.due("GRANTED, CUT to more", x.granted(0, 0, true), 500);
        check.due("a LIMIT asked again", x.limit(0, 0, 501), 501);
        x.buyer(0, 0);
        x.cut(0, 1, 5);
        check.due("GRANTED, CUT ahead of it", x.limit(0, 1, 9), 9);
    }

    private void sailedBefore() {
        Check check = said.promise(17, "SHIPMENTS that SAILED stay as they are).");
        Exportcover x = Office.plain();
        x.ship(0, 0, 9000, 30, false);
        x.cut(0, 0, 0);
        check.due("INSURED", x.ofShipment(0, 6), 9000);
        check.due("REASON", x.ofShipment(0, 7), 0);
        check.due("AT RISK", x.granted(0, 0, false), 9000);
        check.due("what would be INSURED", x.wouldInsure(0, 0, 1, 30, false), 0);
    }

    private void howMuchLess() {
        Check check = said.promise(17, "Returns by how much less is GRANTED.");
        Exportcover x = Office.plain();
        check.due("cut to more", x.cut(0, 0, Integer.MAX_VALUE), 0);
        check.due("cut to as much", x.cut(0, 0, 12000), 0);
        check.due("cut to one less", x.cut(0, 0, 11999), 1);
        check.due("cut to nothing", x.cut(0, 0, 0), 11999);
        check.due("cut of nothing", x.cut(0, 0, 0), 0);
    }

    private void cutOfNobody() {
        Check check = said.promise(17, "Throws `IndexOutOfBoundsException` if there is no such POLICY, or BUYER");
        Exportcover none = new Exportcover();
        none.land(0, 0);
        none.buyer(0, 0);
        check.noIndexBeside(none, "cut without a POLICY", 0, policy -> none.cut(policy, 0, 1));
        Exportcover alone = oneExporter();
        alone.policy(0, 50, -1, 0);
        check.noIndexBeside(alone, "cut without a BUYER", 0, buyer -> alone.cut(0, buyer, 1));
        Exportcover x = Office.plain();
        check.noIndexBeside(x, "cut, POLICY", 1, policy -> x.cut(policy, 0, 1));
        check.noIndexBeside(x, "cut, BUYER", 1, buyer -> x.cut(0, buyer, 1));
    }

    private void cutBelow() {
        Check check = said.promise(17, "Throws `IllegalArgumentException` if to is below 0");
        Exportcover x = Office.plain();
        check.noArgument(x, "cut to -1", () -> x.cut(0, 0, -1));
        check.noArgument(x, "cut to the least number", () -> x.cut(0, 0, Integer.MIN_VALUE));
        check.due("cut to the highest number", x.cut(0, 0, Integer.MAX_VALUE), 0);
        check.due("cut to 0", x.cut(0, 0, 0), 12000);
        x.bribe(0);
        check.due("cut of an ENDED one", x.cut(0, 0, 0), 0);
    }

    private void whatOfAPolicy() {
        Check check = said.promise(33, "0 its EXPORTER, 1 COVER, 2 RIVAL (NONE), 3 QUOTA, 4 1 if ENDED, otherwise 0, 5 "
            + "how many SHIPMENTS it has, 6 what PREMIUM of all its SHIPMENTS is together (not net)");
        Exportcover x = new Exportcover();
        x.land(7, 999999);
        x.buyer(0, 0);
        x.exporter();
        x.exporter();
        x.policy(1, 95, -1, 0);
        x.policy(0, 50, 1, 60);
        duePolicy(check, x, 0, 1, 95, -1, 0, 0, 0, 0);
        duePolicy(check, x, 1, 0, 50, 1, 60, 0, 0, 0);
        x.ship(0, 0, 1, 30, false);
        x.limit(1, 0, 10000);
        x.ship(1, 0, 9999, 30, false);
        x.ship(1, 0, 1, 30, true);
        x.ship(1, 0, 1, 30, false);
        x.inspect(2);
        duePolicy(check, x, 0, 1, 95, -1, 0, 0, 1, 0);
        duePolicy(check, x, 1, 0, 50, 1, 60, 1, 3, 162 + 1);
    }

    private static void duePolicy(Check check, Exportcover x, int policy, int... due) {
        for (int what = 0; what < due.length; what++) {
            check.due("ofPolicy(" + policy + ", " + what + ")", x.ofPolicy(policy, what), due[what]);
        }
    }

    private void ofPolicyOfNone() {
        Check check = said.promise(33, "Throws `IndexOutOfBoundsException` if there is no such POLICY");
        Exportcover none = new Exportcover();
        check.noIndexBeside(none, "ofPolicy without one", 0, policy -> none.ofPolicy(policy, 0));
        Exportcover x = Office.plain();
        check.noIndexBeside(x, "ofPolicy", 1, policy -> x.ofPolicy(policy, 0));
    }

    private void ofPolicyBeside() {
        Check check = said.promise(33, "Throws `IllegalArgumentException` if what is not 0 to 6");
        Exportcover x = Office.plain();
        check.noArgumentBeside(x, "ofPolicy", 0, 6, what -> x.ofPolicy(0, what));
        check.due("ofPolicy(0, 0)", x.ofPolicy(0, 0), 0);
        check.due("ofPolicy(0, 6)", x.ofPolicy(0, 6), 0);
    }

    private void grantedOrAtRisk() {
        Check check = said.promise(34, "Returns that.");
        Exportcover x = Office.plain();
        check.due("AT RISK without a SHIPMENT", x.granted(0, 0, false), 0);
        x.ship(0, 0, 99999, 30, false);
        check.due("GRANTED", x.granted(0, 0, true), 12000);
        check.due("AT RISK", x.granted(0, 0, false), 12000);
        x.cut(0, 0, 0);
        check.due("GRANTED, CUT", x.granted(0, 0, true), 0);
        check.due("AT RISK", x.granted(0, 0, false), 12000);
    }

    private void grantedOfNobody() {
        Check check = said.promise(34, "Throws `IndexOutOfBoundsException` if there is no such POLICY, or BUYER");
        Exportcover none = new Exportcover();
        none.land(0, 0);
        none.buyer(0, 0);
        check.noIndexBeside(none, "granted without a POLICY", 0, policy -> none.granted(policy, 0, true));
        Exportcover alone = oneExporter();
        alone.policy(0, 50, -1, 0);
        check.noIndexBeside(alone, "granted without a BUYER", 0, buyer -> alone.granted(0, buyer, true));
        Exportcover x = Office.plain();
        check.noIndexBeside(x, "granted, POLICY", 1, policy -> x.granted(policy, 0, false));
        check.noIndexBeside(x, "granted, BUYER", 1, buyer -> x.granted(0, buyer, false));
    }
}
