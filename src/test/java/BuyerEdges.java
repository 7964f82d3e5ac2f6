/** The edges of chapter 2 as to BUYERS and EXPORTERS, and of promises 9 to 13, 31 and 32. */
final class BuyerEdges {
    private final Sentences said;

    BuyerEdges(Sentences said) {
        this.said = said;
    }

    void run() {
        atMostTwelve();
        earnsFromTheWorld();
        canPay();
        atMostSix();
        ownsNoneAtFirst();
        noneSellAtFirst();
        numberOfABuyer();
        buyerNowhere();
        buyerBeside();
        thirteenthBuyer();
        chestThen();
        earnOfNobody();
        earnBeside();
        chestOfTheBroke();
        brokeAgain();
        wasBroke();
        brokeOfNobody();
        numberOfAnExporter();
        seventhExporter();
        fromNowOn();
        setThen();
        linkOfNobody();
        whatOfABuyer();
        ofBuyerOfNobody();
        ofBuyerBeside();
        whatOfAnExporter();
        ofExporterOfNobody();
        ofExporterBeside();
    }

    private static Exportcover oneBuyer() {
        Exportcover x = new Exportcover();
        x.land(0, 0);
        x.buyer(0, 3);
        return x;
    }

    private void atMostTwelve() {
        Check check = said.chapter(2, "BUYERS: at most 12, numbered from 0, each in a LAND, with a GRADE (0 to 5) and "
            + "the DAY on which it went BROKE (NONE at first).");
        Exportcover x = new Exportcover();
        for (int i = 0; i < 5; i++) {
            x.land(0, 0);
        }
        for (int i = 0; i < 12; i++) {
            check.due("buyer", x.buyer(i % 5, i % 6), i);
            check.due("its LAND", x.ofBuyer(i, 0), i % 5);
            check.due("its GRADE", x.ofBuyer(i, 1), i % 6);
            check.due("the DAY on which it went BROKE", x.ofBuyer(i, 2), -1);
        }
        check.noState(x, "a 13th BUYER", () -> x.buyer(0, 0));
        check.due("BUYERS", x.books(3), 12);
    }

    private void earnsFromTheWorld() {
        Check check = said.chapter(2, "what it EARNS comes from the WORLD.");
        Exportcover x = oneBuyer();
        x.earn(0, 1);
        check.due("the WORLD", x.books(10), -1);
        x.earn(0, 99999);
        check.due("the WORLD", x.books(10), -100000);
        check.due("CHEST", x.ofBuyer(0, 3), 100000);
    }

    private void canPay() {
        Check check = said.chapter(2, "A BUYER CAN PAY, if it is not BROKE and its LAND is not TROUBLED.");
        for (int set = 0; set < 8; set++) {
            Exportcover x = oneBuyer();
            x.land(0, 0);
            x.buyer(1, 0);
            if ((set & 1) != 0) {
                x.broke(0);
            }
            if ((set & 2) != 0) {
                x.stop(0, true);
            }
            if ((set & 4) != 0) {
                x.war(0, true);
            }
            check.due("CAN PAY with " + set, x.ofBuyer(0, 4), set == 0 ? 1 : 0);
            check.due("another one elsewhere", x.ofBuyer(1, 4), 1);
        }
    }

    private void atMostSix() {
        Check check = said.chapter(2, "EXPORTERS: at most 6, numbered from 0");
        Exportcover x = new Exportcover();
        for (int i = 0; i < 6; i++) {
            check.due("exporter", x.exporter(), i);
        }
        check.noState(x, "a seventh EXPORTER", () -> x.exporter());
        check.due("EXPORTERS", x.books(4), 6);
    }

    private void ownsNoneAtFirst() {
        Check check = said.chapter(2, "none at first) and BUYERS that SELL to it (a set");
        Exportcover x = oneBuyer();
        x.exporter();
        x.exporter();
        check.due("OWNS at first", x.ofExporter(0, 1), 0);
        x.link(0, 0, true);
        check.due("OWNS", x.ofExporter(0, 1), 1);
        check.due("another one OWNS", x.ofExporter(1, 1), 0);
    }

    private void noneSellAtFirst() {
        Check check = said.chapter(2, "none at first).");
        Exportcover x = oneBuyer();
        x.exporter();
        x.exporter();
        check.due("SELL at first", x.ofExporter(0, 2), 0);
        x.link(0, 0, false);
        check.due("SELL", x.ofExporter(0, 2), 1);
        check.due("OWNS", x.ofExporter(0, 1), 0);
        check.due("SELL to another one", x.ofExporter(1, 2), 0);
    }

    private void numberOfABuyer() {
        Check check = said.promise(9, "Returns its number.");
        Exportcover x = new Exportcover();
        x.market(0);
        check.due("a BUYER beside a MARKET", x.buyer(2, 0), 6);
        Exportcover y = oneBuyer();
        check.due("the second BUYER", y.buyer(0, 0), 1);
    }

    private void buyerNowhere() {
        Check check = said.promise(9, "Throws `IndexOutOfBoundsException` if there is no such LAND");
        Exportcover none = new Exportcover();
        check.noIndexBeside(none, "buyer without a LAND", 0, land -> none.buyer(land, 0));
        Exportcover x = oneBuyer();
        check.noIndexBeside(x, "buyer", 1, land -> x.buyer(land, 0));
    }

    private void buyerBeside() {
        Check check = said.promise(9, "Throws `IllegalArgumentException` if grade is not 0 to 5");
        Exportcover x = oneBuyer();
        check.noArgumentBeside(x, "buyer", 0, 5, grade -> x.buyer(0, grade));
        check.due("a BUYER of GRADE 0", x.buyer(0, 0), 1);
        check.due("a BUYER of GRADE 5", x.buyer(0, 5), 2);
    }

    private void thirteenthBuyer() {
        Check check = said.promise(9, "Throws `IllegalStateException` if there are 12");
        Exportcover x = new Exportcover();
        x.market(0);
        for (int i = 6; i < 12; i++) {
            check.due("buyer", x.buyer(0, 0), i);
        }
        check.noState(x, "a 13th BUYER", () -> x.buyer(0, 0));
    }

    private void chestThen() {
        Check check = said.promise(10, "Returns its CHEST then.");
        Exportcover x = oneBuyer();
        check.due("earn of the first cent", x.earn(0, 1), 1);
        check.due("earn", x.earn(0, 99999), 100000);
        x.broke(0);
        x.stop(0, true);
        check.due("earn of one that is BROKE and STOPPED", x.earn(0, 1), 100001);
    }

    private void earnOfNobody() {
        Check check = said.promise(10, "Throws `IndexOutOfBoundsException` if there is no such BUYER");
        Exportcover none = new Exportcover();
        check.noIndexBeside(none, "earn without a BUYER", 0, buyer -> none.earn(buyer, 1));
        Exportcover x = oneBuyer();
        check.noIndexBeside(x, "earn", 1, buyer -> x.earn(buyer, 1));
        check.due("earn of the one", x.earn(0, 1), 1);
    }

    private void earnBeside() {
        Check check = said.promise(10, "Throws `IllegalArgumentException` if amount is not 1 to 99999");
        Exportcover x = oneBuyer();
        check.noArgumentBeside(x, "earn", 1, 99999, amount -> x.earn(0, amount));
        check.due("earn of 99999", x.earn(0, 99999), 99999);
        check.due("earn of 1", x.earn(0, 1), 100000);
    }

    private void chestOfTheBroke() {
        Check check = said.promise(11, "A BUYER goes BROKE (what is in its CHEST stays there).");
        Exportcover x = Office.plain();
        x.ship(0, 0, 100, 30, false);
        x.earn(0, 70);
        x.broke(0);
        check.due("CHEST", x.ofBuyer(0, 3), 70);
        x.pass(30);
        check.due("CHEST behind what was DUE", x.ofBuyer(0, 3), 70);
        Exportcover empty = oneBuyer();
        empty.broke(0);
        check.due("an empty CHEST", empty.ofBuyer(0, 3), 0);
    }

    private void brokeAgain() {
        Check check = said.promise(11, "One that is BROKE stays so since the DAY that it had.");
        Exportcover x = oneBuyer();
        x.broke(0);
        x.pass(1);
        x.broke(0);
        check.due("BROKE on DAY 0", x.ofBuyer(0, 2), 0);
        Exportcover y = oneBuyer();
        y.pass(7);
        y.broke(0);
        Office.passTo(y, 7200);
        y.broke(0);
        check.due("BROKE on DAY 7", y.ofBuyer(0, 2), 7);
    }

    private void wasBroke() {
        Check check = said.promise(11, "Returns whether it was BROKE.");
        Exportcover x = oneBuyer();
        x.buyer(0, 0);
        check.due("broke", x.broke(0), false);
        check.due("broke again, on DAY 0", x.broke(0), true);
        x.pass(1);
        check.due("broke again", x.broke(0), true);
        check.due("broke of another one", x.broke(1), false);
    }

    private void brokeOfNobody() {
        Check check = said.promise(11, "Throws `IndexOutOfBoundsException` if there is no such BUYER");
        Exportcover none = new Exportcover();
        check.noIndexBeside(none, "broke without a BUYER", 0, buyer -> none.broke(buyer));
        Exportcover x = oneBuyer();
        check.noIndexBeside(x, "broke", 1, buyer -> x.broke(buyer));
    }

    private void numberOfAnExporter() {
        Check check = said.promise(12, "Returns its number.");
        Exportcover x = new Exportcover();
        check.due("the first EXPORTER", x.exporter(), 0);
        check.due("the second EXPORTER", x.exporter(), 1);
        Exportcover market = new Exportcover();
        market.market(0);
        check.due("an EXPORTER beside a MARKET", market.exporter(), 3);
    }

    private void seventhExporter() {
        Check check = said.promise(12, "Throws `IllegalStateException` if there are 6");
        Exportcover x = new Exportcover();
        x.market(0);
        for (int i = 3; i < 6; i++) {
            check.due("exporter", x.exporter(), i);
        }
        check.noState(x, "a seventh EXPORTER", () -> x.exporter());
    }

    private void fromNowOn() {
        Check check = said.promise(13, "An EXPORTER OWNS a BUYER, or a BUYER SELLS to an EXPORTER, from now on.");
        Exportcover x = oneBuyer();
        x.exporter();
        x.exporter();
        x.link(0, 0, true);
        x.link(1, 0, true);
        check.due("OWNS, as another one does", x.ofExporter(0, 1), 1);
        check.due("the other one OWNS", x.ofExporter(1, 1), 1);
        x.link(0, 0, false);
        Office.passTo(x, 7200);
        check.due("OWNS on the last DAY", x.ofExporter(0, 1), 1);
        check.due("SELL on the last DAY", x.ofExporter(0, 2), 1);
    }

    private void setThen() {
        Check check = said.promise(13, "Returns the set of those that it OWNS, or that SELL to it, then.");
        Exportcover x = new Exportcover();
        x.land(0, 0);
        x.exporter();
        for (int i = 0; i < 12; i++) {
            x.buyer(0, 0);
        }
        check.due("link of the last BUYER", x.link(0, 11, true), 2048);
        check.due("link of it again", x.link(0, 11, true), 2048);
        check.due("link of the first BUYER", x.link(0, 0, true), 2049);
        check.due("link of a seller", x.link(0, 11, false), 2048);
        for (int i = 0; i < 12; i++) {
            x.link(0, i, false);
        }
        check.due("link of all sellers", x.link(0, 5, false), 4095);
        check.due("OWNS", x.ofExporter(0, 1), 2049);
    }

    private void linkOfNobody() {
        Check check = said.promise(13, "Throws `IndexOutOfBoundsException` if there is no such EXPORTER, or BUYER");
        Exportcover none = oneBuyer();
        check.noIndexBeside(none, "link without an EXPORTER", 0, exporter -> none.link(exporter, 0, true));
        Exportcover alone = new Exportcover();
        alone.exporter();
        check.noIndexBeside(alone, "link without a BUYER", 0, buyer -> alone.link(0, buyer, false));
        Exportcover x = oneBuyer();
        x.exporter();
        check.noIndexBeside(x, "link", 1, exporter -> x.link(exporter, 0, false));
        check.noIndexBeside(x, "link", 1, buyer -> x.link(0, buyer, true));
        check.due("link of the two", x.link(0, 0, true), 1);
    }

    private void whatOfABuyer() {
        Check check = said.promise(31, "0 its LAND, 1 GRADE, 2 the DAY on which it went BROKE (NONE), 3 its CHEST, 4 1 "
            + "if it CAN PAY, otherwise 0, 5 LEFT of all its SHIPMENTS that are neither FAKE nor VOID, together");
        Exportcover x = Office.plain();
        x.buyer(0, 5);
        dueBuyer(check, x, 0, 0, -1, 0, 1, 0);
        for (int i = 0; i < 3; i++) {
            x.ship(0, 0, 99999, 30, false);
        }
        x.ship(0, 0, 77, 30, true);
        x.ship(0, 1, 55, 30, false);
        dueBuyer(check, x, 0, 0, -1, 0, 1, 299997);
        x.inspect(3);
        x.earn(0, 99999);
        x.pay(0, 99999);
        x.broke(0);
        dueBuyer(check, x, 0, 0, 0, 0, 0, 199998);
        x.pass(30);
        x.club(0, 10, 1);
        x.earn(0, 1);
        dueBuyer(check, x, 0, 0, 0, 1, 0, 2 * 9999);
        check.due("GRADE of the other one", x.ofBuyer(1, 1), 5);
    }

    private static void dueBuyer(Check check, Exportcover x, int... due) {
        for (int what = 0; what < due.length; what++) {
            check.due("ofBuyer(0, " + what + ")", x.ofBuyer(0, what), due[what]);
        }
    }

    private void ofBuyerOfNobody() {
        Check check = said.promise(31, "Throws `IndexOutOfBoundsException` if there is no such BUYER");
        Exportcover none = new Exportcover();
        check.noIndexBeside(none, "ofBuyer without a BUYER", 0, buyer -> none.ofBuyer(buyer, 0));
        Exportcover x = oneBuyer();
        check.noIndexBeside(x, "ofBuyer", 1, buyer -> x.ofBuyer(buyer, 0));
    }

    private void ofBuyerBeside() {
        Check check = said.promise(31, "Throws `IllegalArgumentException` if what is not 0 to 5");
        Exportcover x = oneBuyer();
        check.noArgumentBeside(x, "ofBuyer", 0, 5, what -> x.ofBuyer(0, what));
        check.due("ofBuyer(0, 0)", x.ofBuyer(0, 0), 0);
        check.due("ofBuyer(0, 5)", x.ofBuyer(0, 5), 0);
    }

    private void whatOfAnExporter() {
        Check check = said.promise(32, "0 its CHEST, 1 the set of BUYERS that it OWNS, 2 of those that SELL to it, 3 "
            + "how many of its POLICIES are not ENDED, 4 how many SHIPMENTS it has, 5 1 if it is in a CIRCLE, "
            + "otherwise 0");
        Exportcover x = new Exportcover();
        x.exporter();
        dueExporter(check, x, 0, 0, 0, 0, 0, 0);
        x.land(0, 999999);
        x.buyer(0, 0);
        x.policy(0, 50, -1, 0);
        x.policy(0, 50, -1, 0);
        x.limit(0, 0, 100);
        dueExporter(check, x, 0, 0, 0, 2, 0, 0);
        x.ship(0, 0, 100, 30, false);
        x.ship(1, 0, 100, 30, true);
        x.inspect(1);
        dueExporter(check, x, -1, 0, 0, 1, 2, 0);
        x.link(0, 0, false);
        dueExporter(check, x, -1, 0, 1, 1, 2, 1);
        x.link(0, 0, true);
        x.bribe(0);
        dueExporter(check, x, -1, 1, 1, 0, 2, 1);
    }

    private static void dueExporter(Check check, Exportcover x, int... due) {
        for (int what = 0; what < due.length; what++) {
            check.due("ofExporter(0, " + what + ")", x.ofExporter(0, what), due[what]);
        }
    }

    private void ofExporterOfNobody() {
        Check check = said.promise(32, "Throws `IndexOutOfBoundsException` if there is no such EXPORTER");
        Exportcover none = new Exportcover();
        check.noIndexBeside(none, "ofExporter without one", 0, exporter -> none.ofExporter(exporter, 0));
        Exportcover x = Office.plain();
        check.noIndexBeside(x, "ofExporter", 1, exporter -> x.ofExporter(exporter, 0));
    }

    private void ofExporterBeside() {
        Check check = said.promise(32, "Throws `IllegalArgumentException` if what is not 0 to 5");
        Exportcover x = Office.plain();
        check.noArgumentBeside(x, "ofExporter", 0, 5, what -> x.ofExporter(0, what));
        check.due("ofExporter(0, 0)", x.ofExporter(0, 0), 0);
        check.due("ofExporter(0, 5)", x.ofExporter(0, 5), 0);
    }
}
