import java.util.Arrays;

/** The edges of chapter 2 as to LANDS, and of promises 2 to 8 and 30. */
final class LandEdges {
    private final Sentences said;

    LandEdges(Sentences said) {
        this.said = said;
    }

    void run() {
        atMostFive();
        classAndCeiling();
        notClosedAtFirst();
        noMoneyGetsOut();
        neitherStoppedNorAtWarAtFirst();
        troubled();
        earliestTrouble();
        middleOne();
        rowOfASeed();
        nextNumber();
        marketOfLands();
        marketOfExporters();
        marketOfBuyers();
        ceilingsTogether();
        seedBeside();
        marketTwice();
        numberOfALand();
        landBeside();
        sixthLand();
        voteThen();
        voteNowhere();
        voteBeside();
        ceilingBefore();
        ceilingNowhere();
        ceilingBeside();
        closeThenOpen();
        closedBefore();
        closeNowhere();
        stoppedNoMore();
        stopOfTheStopped();
        stoppedBefore();
        stopNowhere();
        atWarNoMore();
        warLikewise();
        warBefore();
        warNowhere();
        whatOfALand();
        ofLandNowhere();
        ofLandBeside();
    }

    private static Exportcover oneLand() {
        Exportcover x = new Exportcover();
        x.land(3, 500);
        return x;
    }

    private void atMostFive() {
        Check check = said.chapter(2, "LANDS: at most 5, numbered from 0");
        Exportcover x = new Exportcover();
        for (int i = 0; i < 5; i++) {
            check.due("land", x.land(0, 0), i);
        }
        check.noState(x, "a sixth LAND", () -> x.land(0, 0));
        check.due("LANDS", x.books(2), 5);
    }

    private void classAndCeiling() {
        Check check = said.chapter(2, "each with a CLASS (0 to 7), a CEILING (0 to 999999)");
        Exportcover x = new Exportcover();
        x.land(0, 0);
        x.land(7, 999999);
        check.due("the least CLASS", x.ofLand(0, 0), 0);
        check.due("the least CEILING", x.ofLand(0, 1), 0);
        check.due("the highest CLASS", x.ofLand(1, 0), 7);
        check.due("the highest CEILING", x.ofLand(1, 1), 999999);
    }

    private void notClosedAtFirst() {
        Check check = said.chapter(2, "CLOSED or not (by the OFFICE; not at first)");
        Exportcover x = oneLand();
        check.due("CLOSED at first", x.ofLand(0, 2), 0);
        check.due("close at first", x.close(0, false), false);
    }

    private void noMoneyGetsOut() {
        Check check = said.chapter(2, "the DAY since when it is STOPPED (no money gets out");
        Exportcover x = Office.plain();
        x.ship(0, 0, 100, 30, false);
        x.earn(0, 100);
        x.stop(0, true);
        check.noState(x, "pay out of a STOPPED LAND", () -> x.pay(0, 1));
        x.pass(30);
        check.due("LEFT of what was DUE", x.ofShipment(0, 5), 100);
        x.stop(0, false);
        check.due("pay, not STOPPED any more", x.pay(0, 100), 100);
    }

    private void neitherStoppedNorAtWarAtFirst() {
        Check check = said.chapter(2, "NONE at first), and that since when it is at WAR (NONE at first).");
        Exportcover x = oneLand();
        check.due("STOPPED at first", x.ofLand(0, 3), -1);
        check.due("at WAR at first", x.ofLand(0, 4), -1);
        check.due("stop(0, false) at first", x.stop(0, false), -1);
        check.due("war(0, false) at first", x.war(0, false), -1);
    }

    private void troubled() {
        Check check = said.chapter(2, "A LAND is TROUBLED, if it is STOPPED or at WAR;");
        Exportcover x = Office.plain();
        check.due("REASON without", x.wouldInsure(0, 0, 1, 30, true), 0);
        x.stop(0, true);
        check.due("REASON, STOPPED since DAY 0", x.wouldInsure(0, 0, 1, 30, true), 3);
        x.war(0, true);
        check.due("REASON, both", x.wouldInsure(0, 0, 1, 30, true), 3);
        x.stop(0, false);
        check.due("REASON, at WAR since DAY 0", x.wouldInsure(0, 0, 1, 30, true), 3);
        x.war(0, false);
        check.due("REASON without", x.wouldInsure(0, 0, 1, 30, true), 0);
    }

    private void earliestTrouble() {
        Check check = said.chapter(2, "its TROUBLE is the earliest one of those DAYS that there are (NONE without).");
        for (int stopped = -1; stopped <= 2; stopped++) {
            for (int atWar = -1; atWar <= 2; atWar++) {
                Exportcover x = oneLand();
                for (int day = 0; day <= 2; day++) {
                    if (day == stopped) {
                        x.stop(0, true);
                    }
                    if (day == atWar) {
                        x.war(0, true);
                    }
                    x.pass(1);
                }
                boolean isOne = stopped == -1 || atWar == -1;
                int due = isOne ? Math.max(stopped, atWar) : Math.min(stopped, atWar);
                check.due("TROUBLE, STOPPED on " + stopped + ", at WAR on " + atWar, x.ofLand(0, 5), due);
            }
        }
    }

    private void middleOne() {
        Check check = said.chapter(2, "the CLASS is the middle one of the three numbers.");
        int[][] votes = {{0, 0, 0}, {7, 7, 7}, {0, 0, 7}, {0, 7, 7}, {0, 3, 7}, {3, 4, 3}, {4, 4, 3}};
        Exportcover x = oneLand();
        for (int[] each : votes) {
            int[] sorted = each.clone();
            Arrays.sort(sorted);
            for (int turn = 0; turn < 3; turn++) {
                int one = each[turn];
                int two = each[(turn + 1) % 3];
                int three = each[(turn + 2) % 3];
                check.due("vote " + Arrays.toString(each), x.vote(0, one, two, three), sorted[1]);
                check.due("vote " + Arrays.toString(each), x.vote(0, three, two, one), sorted[1]);
            }
        }
    }

    private static int[] row(int seed) {
        int[] row = new int[24];
        row[0] = (27 * seed + 29) % 101;
        for (int i = 1; i < row.length; i++) {
            row[i] = (27 * row[i - 1] + 29) % 101;
        }
        return row;
    }

    private void rowOfASeed() {
        Check check = said.chapter(2, "A ROW of a SEED (0 to 99): the first number of it is (27 * SEED + 29) modulo "
            + "101, each later one (27 * the number ahead of it + 29) modulo 101;");
        Exportcover least = new Exportcover();
        least.market(0);
        check.due("CLASS out of 29", least.ofLand(0, 0), 29 % 8);
        check.due("CEILING out of (27 * 29 + 29) % 101", least.ofLand(0, 1), 200 * 4);
        Exportcover most = new Exportcover();
        most.market(99);
        check.due("CLASS out of (27 * 99 + 29) % 101", most.ofLand(0, 0), 76 % 8);
        check.due("CEILING out of (27 * 76 + 29) % 101", most.ofLand(0, 1), 200 * 61);
    }

    /** 96 is the one number that is followed by itself. */
    private void nextNumber() {
        Check check = said.chapter(2, "what is drawn is the next number.");
        Exportcover x = new Exportcover();
        check.due("market(96)", x.market(96), 3 * 200 * 96);
        for (int i = 0; i < 3; i++) {
            check.due("CLASS", x.ofLand(i, 0), 0);
            check.due("CEILING", x.ofLand(i, 1), 19200);
        }
        for (int i = 0; i < 6; i++) {
            check.due("LAND", x.ofBuyer(i, 0), 0);
            check.due("GRADE", x.ofBuyer(i, 1), 0);
            check.due("CHEST", x.ofBuyer(i, 3), 1920);
        }
    }

    private void marketOfLands() {
        Check check = said.chapter(2, "To found a MARKET by a SEED, as long as there are no LANDS, BUYERS and "
            + "EXPORTERS: 3 LANDS, each with a CLASS drawn modulo 8 and a CEILING of 200 * drawn;");
        int leastCeiling = Integer.MAX_VALUE;
        int mostCeiling = 0;
        for (int seed = 0; seed <= 99; seed++) {
            Exportcover x = new Exportcover();
            x.market(seed);
            int[] row = row(seed);
            check.due("LANDS", x.books(2), 3);
            for (int i = 0; i < 3; i++) {
                check.due("CLASS with " + seed, x.ofLand(i, 0), row[2 * i] % 8);
                check.due("CEILING with " + seed, x.ofLand(i, 1), 200 * row[2 * i + 1]);
                leastCeiling = Math.min(leastCeiling, x.ofLand(i, 1));
                mostCeiling = Math.max(mostCeiling, x.ofLand(i, 1));
            }
        }
        check.due("the least CEILING of all", leastCeiling, 0);
        check.due("the highest CEILING of all", mostCeiling, 20000);
    }

    private void marketOfExporters() {
        Check check = said.chapter(2, "3 EXPORTERS;");
        Exportcover x = new Exportcover();
        x.market(5);
        check.due("EXPORTERS", x.books(4), 3);
        check.due("the next EXPORTER", x.exporter(), 3);
    }

    private void marketOfBuyers() {
        Check check = said.chapter(2,
            "6 BUYERS, each in the LAND drawn modulo 3, with a GRADE drawn modulo 6, that EARNS 20 * drawn.");
        int leastEarned = Integer.MAX_VALUE;
        int mostEarned = 0;
        for (int seed = 0; seed <= 99; seed++) {
            Exportcover x = new Exportcover();
            x.market(seed);
            int[] row = row(seed);
            int sum = 0;
            for (int i = 0; i < 6; i++) {
                check.due("LAND with " + seed, x.ofBuyer(i, 0), row[6 + 3 * i] % 3);
                check.due("GRADE with " + seed, x.ofBuyer(i, 1), row[7 + 3 * i] % 6);
                check.due("CHEST with " + seed, x.ofBuyer(i, 3), 20 * row[8 + 3 * i]);
                sum += x.ofBuyer(i, 3);
                leastEarned = Math.min(leastEarned, x.ofBuyer(i, 3));
                mostEarned = Math.max(mostEarned, x.ofBuyer(i, 3));
            }
            check.due("BUYERS", x.books(3), 6);
            check.due("the WORLD", x.books(10), -sum);
        }
        check.due("the least that one EARNS", leastEarned, 0);
        check.due("the most that one EARNS", mostEarned, 2000);
    }

    private void ceilingsTogether() {
        Check check = said.promise(2, "Returns all CEILINGS together.");
        for (int seed = 0; seed <= 99; seed++) {
            Exportcover x = new Exportcover();
            int[] row = row(seed);
            check.due("market(" + seed + ")", x.market(seed), 200 * (row[1] + row[3] + row[5]));
        }
    }

    private void seedBeside() {
        Check check = said.promise(2, "Throws `IllegalArgumentException` if seed is not 0 to 99");
        Exportcover x = new Exportcover();
        check.noArgumentBeside(x, "market", 0, 99, seed -> x.market(seed));
        x.market(0);
        Exportcover y = new Exportcover();
        y.market(99);
        check.due("LANDS by 0", x.books(2), 3);
        check.due("LANDS by 99", y.books(2), 3);
    }

    private void marketTwice() {
        Check check = said.promise(2, "Throws `IllegalStateException` if there is a LAND, a BUYER or an EXPORTER");
        Exportcover land = oneLand();
        check.noState(land, "market with a LAND", () -> land.market(0));
        Exportcover buyer = oneLand();
        buyer.buyer(0, 0);
        check.noState(buyer, "market with a BUYER", () -> buyer.market(0));
        Exportcover exporter = new Exportcover();
        exporter.exporter();
        check.noState(exporter, "market with an EXPORTER", () -> exporter.market(0));
        Exportcover market = new Exportcover();
        market.market(0);
        check.noState(market, "market with a MARKET", () -> market.market(0));
        Exportcover late = new Exportcover();
        late.knock();
        Office.passTo(late, 7200);
        check.due("market on the last DAY", late.market(96), 57600);
    }

    private void numberOfALand() {
        Check check = said.promise(3, "Returns its number.");
        Exportcover x = new Exportcover();
        check.due("the first LAND", x.land(0, 0), 0);
        x.land(0, 0);
        x.land(0, 0);
        x.land(0, 0);
        check.due("the last LAND", x.land(0, 0), 4);
        Exportcover market = new Exportcover();
        market.market(0);
        check.due("a LAND beside a MARKET", market.land(0, 0), 3);
    }

    private void landBeside() {
        Check check = said.promise(3,
            "Throws `IllegalArgumentException` if grade is not 0 to 7, or ceiling not 0 to 999999");
        Exportcover x = new Exportcover();
        check.noArgumentBeside(x, "land, CLASS", 0, 7, grade -> x.land(grade, 0));
        check.noArgumentBeside(x, "land, CEILING", 0, 999999, ceiling -> x.land(0, ceiling));
        check.due("land(0, 999999)", x.land(0, 999999), 0);
        check.due("land(7, 0)", x.land(7, 0), 1);
    }

    private void sixthLand() {
        Check check = said.promise(3, "Throws `IllegalStateException` if there are 5");
        Exportcover x = new Exportcover();
        for (int i = 0; i < 5; i++) {
            x.land(i, i);
        }
        check.noState(x, "a sixth LAND", () -> x.land(0, 0));
        Exportcover market = new Exportcover();
        market.market(0);
        market.land(0, 0);
        market.land(0, 0);
        check.noState(market, "a sixth LAND, three of them of a MARKET", () -> market.land(0, 0));
    }

    private void voteThen() {
        Check check = said.promise(4, "Returns its CLASS then.");
        Exportcover x = oneLand();
        check.due("vote for the least", x.vote(0, 0, 7, 0), 0);
        check.due("CLASS", x.ofLand(0, 0), 0);
        check.due("vote for the highest", x.vote(0, 7, 0, 7), 7);
        check.due("CLASS", x.ofLand(0, 0), 7);
    }

    private void voteNowhere() {
        Check check = said.promise(4, "Throws `IndexOutOfBoundsException` if there is no such LAND");
        Exportcover none = new Exportcover();
        check.noIndexBeside(none, "vote without a LAND", 0, land -> none.vote(land, 0, 0, 0));
        Exportcover x = oneLand();
        check.noIndexBeside(x, "vote", 1, land -> x.vote(land, 0, 0, 0));
        check.due("vote of the one", x.vote(0, 1, 1, 1), 1);
    }

    private void voteBeside() {
        Check check = said.promise(4, "Throws `IllegalArgumentException` if one of these is not 0 to 7");
        Exportcover x = oneLand();
        check.noArgumentBeside(x, "the first vote", 0, 7, one -> x.vote(0, one, 0, 7));
        check.noArgumentBeside(x, "the second vote", 0, 7, two -> x.vote(0, 7, two, 0));
        check.noArgumentBeside(x, "the third vote", 0, 7, three -> x.vote(0, 7, 0, three));
        check.due("vote(0, 0, 7, 7)", x.vote(0, 0, 7, 7), 7);
    }

    private void ceilingBefore() {
        Check check = said.promise(5, "Returns that before.");
        Exportcover x = oneLand();
        check.due("ceiling(0, 0)", x.ceiling(0, 0), 500);
        check.due("ceiling(0, 999999)", x.ceiling(0, 999999), 0);
        check.due("ceiling(0, 999999) again", x.ceiling(0, 999999), 999999);
    }

    private void ceilingNowhere() {
        Check check = said.promise(5, "Throws `IndexOutOfBoundsException` if there is no such LAND");
        Exportcover none = new Exportcover();
        check.noIndexBeside(none, "ceiling without a LAND", 0, land -> none.ceiling(land, 0));
        Exportcover x = oneLand();
        check.noIndexBeside(x, "ceiling", 1, land -> x.ceiling(land, 0));
        check.due("ceiling of the one", x.ceiling(0, 0), 500);
    }

    private void ceilingBeside() {
        Check check = said.promise(5, "Throws `IllegalArgumentException` if ceiling is not 0 to 999999");
        Exportcover x = oneLand();
        check.noArgumentBeside(x, "ceiling", 0, 999999, ceiling -> x.ceiling(0, ceiling));
        x.ceiling(0, 0);
        check.due("the least CEILING", x.ofLand(0, 1), 0);
        x.ceiling(0, 999999);
        check.due("the highest CEILING", x.ofLand(0, 1), 999999);
    }

    private void closeThenOpen() {
        Check check = said.promise(6, "CLOSES a LAND, or opens it.");
        Exportcover x = oneLand();
        x.close(0, true);
        x.close(0, true);
        check.due("CLOSED twice", x.ofLand(0, 2), 1);
        x.close(0, false);
        check.due("opened once", x.ofLand(0, 2), 0);
        x.close(0, false);
        check.due("opened twice", x.ofLand(0, 2), 0);
    }

    private void closedBefore() {
        Check check = said.promise(6, "Returns whether it was.");
        Exportcover x = oneLand();
        check.due("close, open", x.close(0, true), false);
        check.due("close, CLOSED already", x.close(0, true), true);
        check.due("open, CLOSED", x.close(0, false), true);
        check.due("open, open already", x.close(0, false), false);
    }

    private void closeNowhere() {
        Check check = said.promise(6, "Throws `IndexOutOfBoundsException` if there is no such LAND");
        Exportcover none = new Exportcover();
        check.noIndexBeside(none, "close without a LAND", 0, land -> none.close(land, true));
        Exportcover x = oneLand();
        check.noIndexBeside(x, "close", 1, land -> x.close(land, true));
        check.due("close of the one", x.close(0, true), false);
    }

    private void stoppedNoMore() {
        Check check = said.promise(7, "A LAND is STOPPED, or not any more.");
        Exportcover x = oneLand();
        x.stop(0, false);
        check.due("never STOPPED", x.ofLand(0, 3), -1);
        x.stop(0, true);
        check.due("STOPPED on DAY 0", x.ofLand(0, 3), 0);
        x.stop(0, false);
        x.stop(0, false);
        check.due("not any more", x.ofLand(0, 3), -1);
        check.due("no TROUBLE any more", x.ofLand(0, 5), -1);
    }

    private void stopOfTheStopped() {
        Check check = said.promise(7, "One that is STOPPED already stays so since the DAY that it had.");
        Exportcover x = oneLand();
        x.stop(0, true);
        x.pass(1);
        x.stop(0, true);
        check.due("STOPPED since DAY 0", x.ofLand(0, 3), 0);
        x.stop(0, false);
        check.due("not STOPPED", x.ofLand(0, 3), -1);
        x.stop(0, true);
        check.due("STOPPED since DAY 1", x.ofLand(0, 3), 1);
    }

    private void stoppedBefore() {
        Check check = said.promise(7, "Returns the DAY since when it was STOPPED ahead of that (NONE).");
        Exportcover x = oneLand();
        x.war(0, true);
        check.due("stop", x.stop(0, true), -1);
        check.due("stop again", x.stop(0, true), 0);
        check.due("stop ends", x.stop(0, false), 0);
        check.due("stop ends again", x.stop(0, false), -1);
        Office.passTo(x, 7200);
        check.due("stop on the last DAY", x.stop(0, true), -1);
        check.due("stop again", x.stop(0, true), 7200);
    }

    private void stopNowhere() {
        Check check = said.promise(7, "Throws `IndexOutOfBoundsException` if there is no such LAND");
        Exportcover none = new Exportcover();
        check.noIndexBeside(none, "stop without a LAND", 0, land -> none.stop(land, true));
        Exportcover x = oneLand();
        check.noIndexBeside(x, "stop", 1, land -> x.stop(land, true));
        check.due("stop of the one", x.stop(0, true), -1);
    }

    private void atWarNoMore() {
        Check check = said.promise(8, "A LAND is at WAR, or not any more;");
        Exportcover x = oneLand();
        x.war(0, false);
        check.due("never at WAR", x.ofLand(0, 4), -1);
        x.war(0, true);
        check.due("at WAR on DAY 0", x.ofLand(0, 4), 0);
        x.war(0, false);
        x.war(0, false);
        check.due("not any more", x.ofLand(0, 4), -1);
        check.due("no TROUBLE any more", x.ofLand(0, 5), -1);
    }

    private void warLikewise() {
        Check check = said.promise(8, "likewise.");
        Exportcover x = oneLand();
        x.war(0, true);
        x.pass(1);
        x.war(0, true);
        check.due("at WAR since DAY 0", x.ofLand(0, 4), 0);
        x.war(0, false);
        check.due("not at WAR", x.ofLand(0, 4), -1);
        x.war(0, true);
        check.due("at WAR since DAY 1", x.ofLand(0, 4), 1);
    }

    private void warBefore() {
        Check check = said.promise(8, "Returns the DAY since when it was at WAR ahead of that (NONE).");
        Exportcover x = oneLand();
        x.stop(0, true);
        check.due("war", x.war(0, true), -1);
        check.due("war again", x.war(0, true), 0);
        check.due("war ends", x.war(0, false), 0);
        check.due("war ends again", x.war(0, false), -1);
        Office.passTo(x, 7200);
        check.due("war on the last DAY", x.war(0, true), -1);
        check.due("war again", x.war(0, true), 7200);
    }

    private void warNowhere() {
        Check check = said.promise(8, "Throws `IndexOutOfBoundsException` if there is no such LAND");
        Exportcover none = new Exportcover();
        check.noIndexBeside(none, "war without a LAND", 0, land -> none.war(land, true));
        Exportcover x = oneLand();
        check.noIndexBeside(x, "war", 1, land -> x.war(land, true));
        check.due("war of the one", x.war(0, true), -1);
    }

    private void whatOfALand() {
        Check check = said.promise(30, "0 CLASS, 1 CEILING, 2 1 if CLOSED, otherwise 0, 3 the DAY since when it is "
            + "STOPPED (NONE), 4 at WAR (NONE), 5 TROUBLE (NONE), 6 what is AT RISK there, 7 the RATE of a NOTICE that "
            + "holds (NONE), 8 the LONGEST TERM");
        Exportcover x = Office.ofClass(6);
        dueLand(check, x, 6, 999999, 0, -1, -1, -1, 0, -1, 360);
        x.ship(0, 0, 12000, 30, false);
        x.close(0, true);
        x.notice(0, 999);
        x.pass(1);
        x.war(0, true);
        x.pass(1);
        x.stop(0, true);
        x.ceiling(0, 0);
        dueLand(check, x, 6, 0, 1, 2, 1, 1, 12000, 999, 3600);
        x.vote(0, 0, 0, 0);
        x.close(0, false);
        x.war(0, false);
        x.pass(88);
        dueLand(check, x, 0, 0, 0, 2, -1, 2, 12000, -1, 3600);
    }

    private static void dueLand(Check check, Exportcover x, int... due) {
        for (int what = 0; what < due.length; what++) {
            check.due("ofLand(0, " + what + ")", x.ofLand(0, what), due[what]);
        }
    }

    private void ofLandNowhere() {
        Check check = said.promise(30, "Throws `IndexOutOfBoundsException` if there is no such LAND");
        Exportcover none = new Exportcover();
        check.noIndexBeside(none, "ofLand without a LAND", 0, land -> none.ofLand(land, 0));
        Exportcover x = oneLand();
        check.noIndexBeside(x, "ofLand", 1, land -> x.ofLand(land, 0));
        check.due("ofLand of the one", x.ofLand(0, 0), 3);
    }

    private void ofLandBeside() {
        Check check = said.promise(30, "Throws `IllegalArgumentException` if what is not 0 to 8");
        Exportcover x = oneLand();
        check.noArgumentBeside(x, "ofLand", 0, 8, what -> x.ofLand(0, what));
        check.due("ofLand(0, 0)", x.ofLand(0, 0), 3);
        check.due("ofLand(0, 8)", x.ofLand(0, 8), 1800);
    }
}
