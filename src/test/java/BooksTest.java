/** Promises 29, 37, 38 and 43 to 46: knocks, books, slips, chances, soundness and the digest. */
public final class BooksTest {
    private static final Check check = new Check();

    public static void main(String[] args) {
        knocks();
        books();
        slips();
        expected();
        probable();
        digests();
        check.end();
    }

    private static void knocks() {
        Exportcover x = new Exportcover();
        check.due("knock", x.knock(), 1);
        check.due("knock", x.knock(), 2);
        check.due("REFUSED", x.books(19), 2);
        check.due("knock", x.knock(), 3);
        check.due("isSound()", x.isSound(), true);
    }

    private static void books() {
        Exportcover x = Office.claimed();
        x.land(3, 0);
        x.policy(0, 50, 0, 60);
        x.limit(1, 0, 10000);
        x.ship(1, 0, 10000, 400, true);
        x.inspect(1);
        x.salvage(0, 100);
        x.club(0, 50, 1);
        x.knock();
        x.pass(200);
        // premiums 1 and 11, of which a rival gets 6; claim 630 less 189; recovered 100 and 450
        int[] due = {410, 1, 2, 1, 1, 2, 2, 6 - 441 + 242, 6, -189 + 103, -550, 6, 441, 242,
            6 - 441 + 242, 1, 1, 1, 0, 1};
        for (int what = 0; what < due.length; what++) {
            check.due("books(" + what + ")", x.books(what), due[what]);
        }
        check.due("CHEST of the EXPORTER", x.ofExporter(0, 0), -12 + 630 + 205);
        check.due("isSound()", x.isSound(), true);
        check.noArgument(x, "books(-1)", () -> x.books(-1));
        check.noArgument(x, "books(20)", () -> x.books(20));
    }

    private static void slips() {
        Exportcover x = Office.plain();
        x.exporter();
        x.buyer(0, 0);
        x.buyer(0, 0);
        x.policy(1, 50, -1, 0);
        x.limit(1, 2, 500);
        x.ship(1, 2, 400, 30, false);
        x.ship(0, 1, 99999, 30, true);
        check.due("slip", x.slip(0), "0: 1>2 400/400");
        check.due("slip", x.slip(1), "1: 0>1 99999/99999");
        x.earn(2, 250);
        x.pass(30);
        x.report(0);
        check.due("slip", x.slip(0), "0: 1>2 150/400 reported");
        x.dispute(0);
        check.due("slip", x.slip(0), "0: 1>2 150/400 reported disputed");
        x.judge(0, true);
        x.pass(180);
        x.claim(0);
        check.due("slip", x.slip(0), "0: 1>2 150/400 reported claimed");
        x.club(0, 10, 1);
        check.due("slip", x.slip(0), "0: 1>2 15/400 reported claimed put off");
        x.pass(150);
        check.due("slip", x.slip(0), "0: 1>2 0/400 reported claimed put off");
        x.dispute(1);
        check.due("slip", x.slip(1), "1: 0>1 99999/99999 disputed");
        x.inspect(1);
        check.due("slip", x.slip(1), "1: 0>1 99999/99999 disputed void");
        check.noIndex(x, "slip(2)", () -> x.slip(2));
        check.noIndex(x, "slip(-1)", () -> x.slip(-1));
    }

    /** AT RISK: 1000 in a LAND of CLASS 3, 3000 in one of CLASS 7, none in one of CLASS 0. */
    private static Exportcover threeLands() {
        Exportcover x = new Exportcover();
        x.land(3, 99999);
        x.land(7, 99999);
        x.land(0, 99999);
        x.buyer(0, 0);
        x.buyer(1, 0);
        x.exporter();
        x.policy(0, 50, -1, 0);
        x.limit(0, 0, 1000);
        x.limit(0, 1, 3000);
        x.ship(0, 0, 4000, 90, false);
        x.ship(0, 1, 4000, 90, false);
        return x;
    }

    private static void expected() {
        Exportcover x = threeLands();
        check.dueDouble("expected", x.expected(), 10.0 / 64.0 * 1000 + 50.0 / 64.0 * 3000);
        x.vote(0, 2, 2, 2);
        check.dueDouble("expected", x.expected(), 5.0 / 64.0 * 1000 + 50.0 / 64.0 * 3000);
        x.dispute(1);
        x.judge(1, false);
        check.dueDouble("expected", x.expected(), 5.0 / 64.0 * 1000);
        check.dueDouble("expected of nothing", new Exportcover().expected(), 0.0);
        Exportcover one = Office.plain();
        one.ship(0, 0, 1, 30, false);
        check.dueDouble("expected of a cent", one.expected(), 1.0 / 64.0);
    }

    private static void probable() {
        Exportcover x = threeLands();
        double a = 10.0 / 64.0;
        double b = 50.0 / 64.0;
        check.dueDouble("probable(0)", x.probable(0), 1.0);
        check.dueDouble("probable(1)", x.probable(1), 1.0 - (1.0 - a) * (1.0 - b));
        check.dueDouble("probable(1000)", x.probable(1000), 1.0 - (1.0 - a) * (1.0 - b));
        check.dueDouble("probable(1001)", x.probable(1001), b);
        check.dueDouble("probable(3000)", x.probable(3000), b);
        check.dueDouble("probable(3001)", x.probable(3001), a * b);
        check.dueDouble("probable(4000)", x.probable(4000), a * b);
        check.dueDouble("probable(4001)", x.probable(4001), 0.0);
        check.dueDouble("probable of all", x.probable(Integer.MAX_VALUE), 0.0);
        check.noArgument(x, "probable(-1)", () -> x.probable(-1));
        Exportcover none = new Exportcover();
        check.dueDouble("probable(0) of nothing", none.probable(0), 1.0);
        check.dueDouble("probable(1) of nothing", none.probable(1), 0.0);
        Exportcover five = new Exportcover();
        five.exporter();
        five.policy(0, 50, -1, 0);
        for (int i = 0; i < 5; i++) {
            five.land(i, 99999);
            five.buyer(i, 0);
            five.limit(0, i, 100);
            five.ship(0, i, 100, 30, false);
        }
        double all = 1.0 / 64 * (2.0 / 64) * (5.0 / 64) * (10.0 / 64) * (17.0 / 64);
        check.dueDouble("probable(500)", five.probable(500), all);
    }

    private static void digests() {
        check.due("digest of a new object", new Exportcover().digest(), -8735486752297981798L);
        Exportcover x = threeLands();
        check.due("digest", x.digest(), Digests.reckoned(x));
        Exportcover y = Office.claimed();
        y.salvage(0, 77);
        y.ship(0, 0, 90, 30, true);
        y.link(0, 0, true);
        y.knock();
        check.due("digest", y.digest(), Digests.reckoned(y));
        check.due("digest again", y.digest(), y.digest());
        for (int risk = 999; risk <= 1001; risk++) {
            Exportcover z = Office.plain();
            z.ship(0, 0, risk, 30, false);
            check.due("digest with " + risk + " AT RISK", z.digest(), Digests.reckoned(z));
        }
    }
}
