import java.util.Arrays;

/** Promises 1 to 8, 14, 30 and 39: a new object, lands, votes, trouble, notices and rates. */
public final class LandsTest {
    private static final Check check = new Check();

    public static void main(String[] args) {
        aNewObject();
        markets();
        lands();
        votes();
        ceilingsAndClosing();
        trouble();
        rates();
        notices();
        longestTerms();
        whatIsAsked();
        check.end();
    }

    private static void aNewObject() {
        Exportcover x = new Exportcover();
        for (int what = 0; what < 20; what++) {
            check.due("books(" + what + ") of a new object", x.books(what), 0);
        }
        check.due("circles()", x.circles(), 0);
        check.due("isSound()", x.isSound(), true);
        check.noIndex(x, "ofLand(0, 0)", () -> x.ofLand(0, 0));
        check.noIndex(x, "ofBuyer(0, 0)", () -> x.ofBuyer(0, 0));
        check.noIndex(x, "ofExporter(0, 0)", () -> x.ofExporter(0, 0));
        check.noIndex(x, "ofPolicy(0, 0)", () -> x.ofPolicy(0, 0));
        check.noIndex(x, "ofShipment(0, 0)", () -> x.ofShipment(0, 0));
    }

    private static void markets() {
        int[] seeds = {0, 7, 42, 96, 99};
        for (int seed : seeds) {
            Exportcover x = new Exportcover();
            int[] row = new int[24];
            int number = seed;
            for (int i = 0; i < row.length; i++) {
                number = (27 * number + 29) % 101;
                row[i] = number;
            }
            check.due("market(" + seed + ")", x.market(seed), 200 * (row[1] + row[3] + row[5]));
            int earned = 0;
            for (int i = 0; i < 3; i++) {
                check.due("CLASS " + i, x.ofLand(i, 0), row[2 * i] % 8);
                check.due("CEILING " + i, x.ofLand(i, 1), 200 * row[2 * i + 1]);
            }
            for (int i = 0; i < 6; i++) {
                check.due("LAND of BUYER " + i, x.ofBuyer(i, 0), row[6 + 3 * i] % 3);
                check.due("GRADE " + i, x.ofBuyer(i, 1), row[7 + 3 * i] % 6);
                check.due("CHEST " + i, x.ofBuyer(i, 3), 20 * row[8 + 3 * i]);
                earned += 20 * row[8 + 3 * i];
            }
            check.due("LANDS", x.books(2), 3);
            check.due("BUYERS", x.books(3), 6);
            check.due("EXPORTERS", x.books(4), 3);
            check.due("the WORLD", x.books(10), -earned);
            check.due("isSound()", x.isSound(), true);
            check.noState(x, "a second market", () -> x.market(1));
            check.noArgument(x, "a second market(100)", () -> x.market(100));
        }
        // (27 * 7 + 29) % 101 is 16, then 57, 53, 46
        Exportcover x = new Exportcover();
        check.noArgument(x, "market(-1)", () -> x.market(-1));
        check.noArgument(x, "market(100)", () -> x.market(100));
        x.market(7);
        check.due("CLASS 0", x.ofLand(0, 0), 0);
        check.due("CEILING 0", x.ofLand(0, 1), 11400);
        check.due("CLASS 1", x.ofLand(1, 0), 5);
        check.due("CEILING 1", x.ofLand(1, 1), 9200);
        Exportcover withLand = new Exportcover();
        withLand.land(0, 0);
        check.noState(withLand, "market with a LAND", () -> withLand.market(0));
        Exportcover withExporter = new Exportcover();
        withExporter.exporter();
        check.noState(withExporter, "market with an EXPORTER", () -> withExporter.market(0));
        Exportcover withKnock = new Exportcover();
        withKnock.knock();
        withKnock.pass(1);
        check.due("market later", withKnock.market(7), 21800);
    }

    private static void lands() {
        Exportcover x = new Exportcover();
        check.noArgument(x, "land(-1, 0)", () -> x.land(-1, 0));
        check.noArgument(x, "land(8, 0)", () -> x.land(8, 0));
        check.noArgument(x, "land(0, -1)", () -> x.land(0, -1));
        check.noArgument(x, "land(0, 1000000)", () -> x.land(0, 1000000));
        int[] grades = {0, 7, 3, 4, 5};
        int[] ceilings = {0, 999999, 10, 20, 30};
        for (int i = 0; i < 5; i++) {
            check.due("land", x.land(grades[i], ceilings[i]), i);
        }
        for (int i = 0; i < 5; i++) {
            int[] due = {grades[i], ceilings[i], 0, -1, -1, -1, 0, -1};
            for (int what = 0; what < due.length; what++) {
                check.due("ofLand(" + i + ", " + what + ")", x.ofLand(i, what), due[what]);
            }
        }
        check.noState(x, "a sixth LAND", () -> x.land(0, 0));
        check.noArgument(x, "a sixth LAND of CLASS 8", () -> x.land(8, 0));
    }

    private static void votes() {
        for (int one = 0; one <= 7; one++) {
            Exportcover x = new Exportcover();
            x.land(7, 0);
            x.land(6, 0);
            for (int two = 0; two <= 7; two++) {
                for (int three = 0; three <= 7; three++) {
                    int[] told = {one, two, three};
                    Arrays.sort(told);
                    check.due("vote", x.vote(0, one, two, three), told[1]);
                    check.due("CLASS", x.ofLand(0, 0), told[1]);
                }
            }
            check.due("CLASS of another LAND", x.ofLand(1, 0), 6);
        }
        Exportcover x = new Exportcover();
        x.land(3, 0);
        check.noIndex(x, "vote(1, 8, 8, 8)", () -> x.vote(1, 8, 8, 8));
        check.noIndex(x, "vote(-1, 0, 0, 0)", () -> x.vote(-1, 0, 0, 0));
        check.noArgument(x, "vote(0, 8, 0, 0)", () -> x.vote(0, 8, 0, 0));
        check.noArgument(x, "vote(0, 0, 8, 0)", () -> x.vote(0, 0, 8, 0));
        check.noArgument(x, "vote(0, 0, 0, 8)", () -> x.vote(0, 0, 0, 8));
        check.noArgument(x, "vote(0, -1, 0, 0)", () -> x.vote(0, -1, 0, 0));
        check.noArgument(x, "vote(0, 0, -1, 0)", () -> x.vote(0, 0, -1, 0));
        check.noArgument(x, "vote(0, 0, 0, -1)", () -> x.vote(0, 0, 0, -1));
    }

    private static void ceilingsAndClosing() {
        Exportcover x = new Exportcover();
        x.land(3, 500);
        x.land(3, 600);
        check.due("ceiling", x.ceiling(0, 999999), 500);
        check.due("ceiling", x.ceiling(0, 0), 999999);
        check.due("CEILING", x.ofLand(0, 1), 0);
        check.due("the other CEILING", x.ofLand(1, 1), 600);
        check.noIndex(x, "ceiling(2, -1)", () -> x.ceiling(2, -1));
        check.noArgument(x, "ceiling(0, -1)", () -> x.ceiling(0, -1));
        check.noArgument(x, "ceiling(0, 1000000)", () -> x.ceiling(0, 1000000));
        check.due("close", x.close(1, false), false);
        check.due("close", x.close(1, true), false);
        check.due("CLOSED", x.ofLand(1, 2), 1);
        check.due("the other CLOSED", x.ofLand(0, 2), 0);
        check.due("close", x.close(1, true), true);
        check.due("close", x.close(1, false), true);
        check.due("CLOSED", x.ofLand(1, 2), 0);
        check.noIndex(x, "close(2, true)", () -> x.close(2, true));
        check.noIndex(x, "close(-1, true)", () -> x.close(-1, true));
    }

    private static void dueTrouble(Exportcover x, int stopped, int war, int trouble) {
        check.due("STOPPED", x.ofLand(0, 3), stopped);
        check.due("WAR", x.ofLand(0, 4), war);
        check.due("TROUBLE", x.ofLand(0, 5), trouble);
        check.due("CAN PAY", x.ofBuyer(0, 4), trouble == -1 ? 1 : 0);
    }

    private static void trouble() {
        Exportcover x = new Exportcover();
        x.land(3, 500);
        x.buyer(0, 0);
        check.due("stop(0, false)", x.stop(0, false), -1);
        dueTrouble(x, -1, -1, -1);
        check.due("stop", x.stop(0, true), -1);
        dueTrouble(x, 0, -1, 0);
        x.pass(10);
        check.due("war", x.war(0, true), -1);
        dueTrouble(x, 0, 10, 0);
        x.pass(10);
        check.due("stop again", x.stop(0, true), 0);
        check.due("war again", x.war(0, true), 10);
        dueTrouble(x, 0, 10, 0);
        check.due("stop ends", x.stop(0, false), 0);
        dueTrouble(x, -1, 10, 10);
        check.due("stop once more", x.stop(0, true), -1);
        dueTrouble(x, 20, 10, 10);
        check.due("war ends", x.war(0, false), 10);
        dueTrouble(x, 20, -1, 20);
        check.due("war(0, false)", x.war(0, false), -1);
        check.due("stop ends", x.stop(0, false), 20);
        dueTrouble(x, -1, -1, -1);
        check.noIndex(x, "stop(1, true)", () -> x.stop(1, true));
        check.noIndex(x, "stop(-1, true)", () -> x.stop(-1, true));
        check.noIndex(x, "war(1, true)", () -> x.war(1, true));
        check.noIndex(x, "war(-1, true)", () -> x.war(-1, true));
    }

    private static void rates() {
        Exportcover x = new Exportcover();
        x.land(0, 0);
        x.land(3, 0);
        x.land(7, 0);
        check.due("rate", x.rate(0, 0, 30), 9);
        check.due("rate", x.rate(0, 0, 180), 9);
        check.due("rate", x.rate(0, 0, 181), 10);
        check.due("rate", x.rate(0, 0, 360), 10);
        check.due("rate", x.rate(0, 0, 361), 11);
        check.due("rate", x.rate(0, 5, 30), 29);
        check.due("rate", x.rate(1, 1, 360), 47);
        check.due("rate", x.rate(2, 5, 3600), 335);
        check.due("rate", x.rate(2, 0, 3599), 315);
        check.due("rate", x.rate(2, 0, 3420), 307);
        check.noIndex(x, "rate(3, 6, 29)", () -> x.rate(3, 6, 29));
        check.noIndex(x, "rate(-1, 0, 30)", () -> x.rate(-1, 0, 30));
        check.noArgument(x, "rate(0, -1, 30)", () -> x.rate(0, -1, 30));
        check.noArgument(x, "rate(0, 6, 30)", () -> x.rate(0, 6, 30));
        check.noArgument(x, "rate(0, 0, 29)", () -> x.rate(0, 0, 29));
        check.noArgument(x, "rate(0, 0, 3601)", () -> x.rate(0, 0, 3601));
    }

    private static void notices() {
        Exportcover x = new Exportcover();
        x.land(3, 0);
        x.land(3, 0);
        check.due("notice", x.notice(0, 999), -1);
        check.due("RATE with a NOTICE above it", x.rate(0, 1, 360), 47);
        check.due("notice", x.notice(0, 46), 999);
        check.due("RATE with a NOTICE below it", x.rate(0, 1, 360), 46);
        check.due("RATE elsewhere", x.rate(1, 1, 360), 47);
        check.due("NOTICE", x.ofLand(0, 7), 46);
        check.due("NOTICE elsewhere", x.ofLand(1, 7), -1);
        x.pass(89);
        check.due("NOTICE on its last DAY", x.ofLand(0, 7), 46);
        check.due("RATE on its last DAY", x.rate(0, 1, 360), 46);
        x.pass(1);
        check.due("NOTICE behind it", x.ofLand(0, 7), -1);
        check.due("RATE behind it", x.rate(0, 1, 360), 47);
        check.due("notice behind it", x.notice(0, 1), -1);
        check.due("RATE", x.rate(0, 1, 360), 1);
        x.pass(50);
        check.due("notice", x.notice(0, 47), 1);
        check.due("the latest one counts", x.rate(0, 5, 360), 47);
        x.pass(89);
        check.due("NOTICE", x.ofLand(0, 7), 47);
        check.noIndex(x, "notice(2, 0)", () -> x.notice(2, 0));
        check.noIndex(x, "notice(-1, 1)", () -> x.notice(-1, 1));
        check.noArgument(x, "notice(0, 0)", () -> x.notice(0, 0));
        check.noArgument(x, "notice(0, 1000)", () -> x.notice(0, 1000));
    }

    private static void longestTerms() {
        int[] due = {3600, 3600, 3600, 1800, 1800, 1800, 360, 360};
        for (int grade = 0; grade <= 7; grade++) {
            Exportcover x = new Exportcover();
            x.land(grade, 0);
            check.due("LONGEST of CLASS " + grade, x.ofLand(0, 8), due[grade]);
            x.notice(0, 999);
            check.due("LONGEST with a NOTICE", x.ofLand(0, 8), 3600);
            x.pass(90);
            check.due("LONGEST behind it", x.ofLand(0, 8), due[grade]);
        }
    }

    private static void whatIsAsked() {
        Exportcover x = new Exportcover();
        x.land(3, 0);
        check.noIndex(x, "ofLand(1, 9)", () -> x.ofLand(1, 9));
        check.noIndex(x, "ofLand(-1, 0)", () -> x.ofLand(-1, 0));
        check.noArgument(x, "ofLand(0, -1)", () -> x.ofLand(0, -1));
        check.noArgument(x, "ofLand(0, 9)", () -> x.ofLand(0, 9));
        Exportcover y = Office.plain();
        y.land(1, 5000);
        y.buyer(1, 0);
        y.limit(0, 1, 3000);
        y.ship(0, 0, 400, 30, false);
        y.ship(0, 1, 500, 30, false);
        y.ship(0, 1, 600, 30, true);
        check.due("AT RISK in 0", y.ofLand(0, 6), 400);
        check.due("AT RISK in 1", y.ofLand(1, 6), 1100);
    }
}
