/** Promises 15 to 17, 33 and 34: policies, limits, cuts. */
public final class PoliciesTest {
    private static final Check check = new Check();

    public static void main(String[] args) {
        policies();
        limits();
        cuts();
        whatIsAsked();
        check.end();
    }

    private static void policies() {
        Exportcover x = new Exportcover();
        x.exporter();
        x.exporter();
        check.noIndex(x, "policy(2, 49, 0, 0)", () -> x.policy(2, 49, 0, 0));
        check.noIndex(x, "policy(-1, 50, 0, 0)", () -> x.policy(-1, 50, 0, 0));
        check.noIndex(x, "policy(0, 49, 2, 0)", () -> x.policy(0, 49, 2, 0));
        check.noIndex(x, "policy(0, 50, -2, 0)", () -> x.policy(0, 50, -2, 0));
        check.noArgument(x, "policy(0, 49, 0, 0)", () -> x.policy(0, 49, 0, 0));
        check.noArgument(x, "policy(0, 96, 0, 0)", () -> x.policy(0, 96, 0, 0));
        check.noArgument(x, "policy(0, 50, 0, -1)", () -> x.policy(0, 50, 0, -1));
        check.noArgument(x, "policy(0, 50, 0, 61)", () -> x.policy(0, 50, 0, 61));
        check.noArgument(x, "policy(0, 50, -1, 1)", () -> x.policy(0, 50, -1, 1));
        check.noArgument(x, "policy(0, 50, -1, -1)", () -> x.policy(0, 50, -1, -1));
        int[][] told = {{0, 50, -1, 0}, {1, 95, 0, 60}, {0, 70, 1, 0}, {1, 60, 1, 1},
            {0, 50, 0, 0}, {0, 50, 0, 0}, {0, 50, 0, 0}, {0, 50, 0, 0}};
        for (int i = 0; i < 8; i++) {
            check.due("policy", x.policy(told[i][0], told[i][1], told[i][2], told[i][3]), i);
        }
        for (int i = 0; i < 8; i++) {
            for (int what = 0; what < 7; what++) {
                int due = what < 4 ? told[i][what] : 0;
                check.due("ofPolicy(" + i + ", " + what + ")", x.ofPolicy(i, what), due);
            }
        }
        check.noState(x, "a ninth POLICY", () -> x.policy(0, 50, 0, 0));
        check.noArgument(x, "a ninth POLICY of 49", () -> x.policy(0, 49, 0, 0));
        check.noIndex(x, "a ninth POLICY of no one", () -> x.policy(2, 50, 0, 0));
        check.due("POLICIES", x.books(5), 8);
    }

    private static void limits() {
        Exportcover x = new Exportcover();
        x.land(0, 0);
        for (int grade = 0; grade <= 5; grade++) {
            x.buyer(0, grade);
        }
        x.exporter();
        x.policy(0, 50, -1, 0);
        x.policy(0, 50, -1, 0);
        check.noIndex(x, "limit(2, 0, -1)", () -> x.limit(2, 0, -1));
        check.noIndex(x, "limit(-1, 0, 0)", () -> x.limit(-1, 0, 0));
        check.noIndex(x, "limit(0, 6, -1)", () -> x.limit(0, 6, -1));
        check.noIndex(x, "limit(0, -1, 0)", () -> x.limit(0, -1, 0));
        check.noArgument(x, "limit(0, 0, -1)", () -> x.limit(0, 0, -1));
        check.noArgument(x, "limit(0, 0, 100000)", () -> x.limit(0, 0, 100000));
        for (int grade = 0; grade <= 5; grade++) {
            int most = 2000 * (6 - grade);
            check.due("GRANTED at first", x.granted(0, grade, true), 0);
            check.due("limit", x.limit(0, grade, 99999), most);
            check.due("limit", x.limit(0, grade, most + 1), most);
            check.due("limit", x.limit(0, grade, most - 1), most - 1);
            check.due("GRANTED", x.granted(0, grade, true), most - 1);
            check.due("GRANTED of another POLICY", x.granted(1, grade, true), 0);
        }
        check.due("a lower LIMIT", x.limit(0, 0, 0), 0);
        check.due("GRANTED of another BUYER", x.granted(0, 1, true), 9999);
        x.bribe(0);
        check.noState(x, "limit of an ENDED POLICY", () -> x.limit(0, 0, 5));
        check.noArgument(x, "limit(0, 0, -1) of an ENDED POLICY", () -> x.limit(0, 0, -1));
        check.due("GRANTED stays", x.granted(0, 1, true), 9999);
    }

    private static void cuts() {
        Exportcover x = Office.plain();
        x.buyer(0, 5);
        check.due("cut of nothing", x.cut(0, 1, 5), 0);
        check.due("GRANTED", x.granted(0, 1, true), 0);
        check.due("cut to more", x.cut(0, 0, 12001), 0);
        check.due("cut to as much", x.cut(0, 0, 12000), 0);
        x.ship(0, 0, 9000, 30, false);
        check.due("cut", x.cut(0, 0, 600), 11400);
        check.due("GRANTED", x.granted(0, 0, true), 600);
        check.due("INSURED stays", x.ofShipment(0, 6), 9000);
        check.due("AT RISK stays", x.granted(0, 0, false), 9000);
        check.due("cut to nothing", x.cut(0, 0, 0), 600);
        check.due("cut to all", x.cut(0, 0, Integer.MAX_VALUE), 0);
        check.due("a LIMIT again", x.limit(0, 0, 700), 700);
        check.noIndex(x, "cut(1, 0, -1)", () -> x.cut(1, 0, -1));
        check.noIndex(x, "cut(-1, 0, 0)", () -> x.cut(-1, 0, 0));
        check.noIndex(x, "cut(0, 2, -1)", () -> x.cut(0, 2, -1));
        check.noIndex(x, "cut(0, -1, 0)", () -> x.cut(0, -1, 0));
        check.noArgument(x, "cut(0, 0, -1)", () -> x.cut(0, 0, -1));
        x.bribe(0);
        check.due("cut of an ENDED one", x.cut(0, 0, 300), 400);
    }

    private static void whatIsAsked() {
        Exportcover x = Office.plain();
        x.buyer(0, 0);
        x.policy(0, 50, -1, 0);
        x.limit(0, 1, 500);
        x.limit(1, 0, 700);
        x.ship(0, 0, 10000, 30, false);
        x.ship(0, 1, 900, 30, false);
        x.ship(1, 0, 300, 30, true);
        x.ship(0, 0, 100, 60, false);
        check.due("SHIPMENTS of 0", x.ofPolicy(0, 5), 3);
        check.due("SHIPMENTS of 1", x.ofPolicy(1, 5), 1);
        check.due("PREMIUM of 0", x.ofPolicy(0, 6), 9 + 1 + 1);
        check.due("PREMIUM of 1", x.ofPolicy(1, 6), 1);
        check.due("AT RISK", x.granted(0, 0, false), 10100);
        check.due("AT RISK", x.granted(0, 1, false), 500);
        check.due("AT RISK", x.granted(1, 0, false), 300);
        check.due("AT RISK", x.granted(1, 1, false), 0);
        x.inspect(2);
        check.due("ENDED", x.ofPolicy(1, 4), 1);
        check.due("not ENDED", x.ofPolicy(0, 4), 0);
        check.due("AT RISK of what is VOID", x.granted(1, 0, false), 0);
        check.due("PREMIUM of what is VOID", x.ofPolicy(1, 6), 1);
        check.noIndex(x, "granted(2, 0, true)", () -> x.granted(2, 0, true));
        check.noIndex(x, "granted(-1, 0, true)", () -> x.granted(-1, 0, true));
        check.noIndex(x, "granted(0, 2, false)", () -> x.granted(0, 2, false));
        check.noIndex(x, "granted(0, -1, false)", () -> x.granted(0, -1, false));
        check.noIndex(x, "ofPolicy(2, 7)", () -> x.ofPolicy(2, 7));
        check.noIndex(x, "ofPolicy(-1, 0)", () -> x.ofPolicy(-1, 0));
        check.noArgument(x, "ofPolicy(0, -1)", () -> x.ofPolicy(0, -1));
        check.noArgument(x, "ofPolicy(0, 7)", () -> x.ofPolicy(0, 7));
    }
}
