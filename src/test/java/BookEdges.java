import java.math.BigInteger;
import java.util.List;

/** The edges of chapter 8, and of promises 29, 37, 38, 43, 44 and 46: books, slips, chances and the digest. */
final class BookEdges {
    private final Sentences said;

    BookEdges(Sentences said) {
        this.said = said;
    }

    void run() {
        net();
        paidBackMakesLess();
        balance();
        chances();
        expectedOfLands();
        probableOfSets();
        strongroom();
        atMost512Calls();
        refusedEver();
        whatOfTheBooks();
        booksBeside();
        slips();
        slipOfNone();
        expected();
        probable();
        probableBelow();
        runDigests();
    }

    private void runDigests() {
        startOfTheDigest();
        wrapsAround();
        digestOfLands();
        digestOfBuyers();
        digestOfExporters();
        digestOfPolicies();
        digestOfShipments();
        digestOfCircles();
        digestOfDoubles();
    }

    private void net() {
        Check check = said.chapter(8, "PREMIUMS, CLAIMS and RECOVERIES of the OFFICE are counted net: PREMIUMS less "
            + "what goes to RIVALS, GROSS less SHARE, its own parts of RECOVERIES;");
        Exportcover x = Office.claimed(90, 1, 60, 12000, 99999);
        check.due("PREMIUMS, 10 less 6", x.books(11), 4);
        check.due("CLAIMS, 10800 less 6480", x.books(12), 4320);
        check.due("RECOVERIES", x.books(13), 0);
        x.salvage(0, 99999);
        check.due("RECOVERIES", x.books(13), 4320);
        Exportcover none = Office.claimed(90, -1, 0, 12000, 99999);
        none.salvage(0, 23);
        check.due("PREMIUMS without a RIVAL", none.books(11), 10);
        check.due("CLAIMS without a RIVAL", none.books(12), 10800);
        check.due("RECOVERIES without a RIVAL, 23 * 10800 / 99999", none.books(13), 2);
    }

    private void paidBackMakesLess() {
        Check check = said.chapter(8, "what an INSPECTED one pays back makes CLAIMS less.");
        Exportcover x = Office.claimedFake();
        check.due("CLAIMS", x.books(12), 441);
        x.inspect(0);
        check.due("CLAIMS, paid back", x.books(12), 0);
        Exportcover open = Office.plain();
        open.ship(0, 0, 10, 30, true);
        open.inspect(0);
        check.due("CLAIMS of one not CLAIMED", open.books(12), 0);
    }

    private void balance() {
        Check check = said.chapter(8, "BALANCE is PREMIUMS and RECOVERIES less CLAIMS (just its CHEST).");
        Exportcover x = Office.claimedFake();
        check.due("BALANCE below 0", x.books(14), 1 - 441);
        check.due("its CHEST", x.books(7), 1 - 441);
        x.salvage(0, 1000);
        check.due("BALANCE, all RECOVERED", x.books(14), 1);
        check.due("its CHEST", x.books(7), 1);
        x.inspect(0);
        check.due("BALANCE, paid back also", x.books(14), 1 + 441);
        check.due("its CHEST", x.books(7), 1 + 441);
        check.due("BALANCE of nothing", new Exportcover().books(14), 0);
    }

    private void chances() {
        Check check = said.chapter(8, "CHANCE of a LAND to fail: (CLASS * CLASS + 1) / 64.0.");
        for (int grade = 0; grade <= 7; grade++) {
            Exportcover x = Office.ofClass(grade);
            x.ship(0, 0, 64, 30, false);
            check.dueDouble("expected of 64 in CLASS " + grade, x.expected(), grade * grade + 1.0);
        }
    }

    /** A LAND for each of these CLASSES, in which so much is AT RISK. */
    private static Exportcover lands(int[] grades, int[] risks) {
        Exportcover x = new Exportcover();
        x.exporter();
        x.policy(0, 50, -1, 0);
        for (int i = 0; i < grades.length; i++) {
            x.land(grades[i], 999999);
            x.buyer(i, 0);
            x.limit(0, i, risks[i]);
            x.ship(0, i, 99999, 30, false);
        }
        return x;
    }

    private void expectedOfLands() {
        Check check = said.chapter(8,
            "EXPECTED: the sum over LANDS, by rising numbers, of CHANCE * what is AT RISK there, as a double.");
        int[] grades = {1, 7, 0, 5, 2};
        int[] risks = {1, 11999, 0, 7, 333};
        Exportcover x = lands(grades, risks);
        double sum = 0.0;
        for (int i = 0; i < 5; i++) {
            sum += (grades[i] * grades[i] + 1) / 64.0 * risks[i];
        }
        check.dueDouble("expected of five LANDS", x.expected(), sum);
    }

    private void probableOfSets() {
        Check check = said.chapter(8, "PROBABLE for an amount: the sum over all sets of LANDS, from 0 on, of which "
            + "what is AT RISK together is that amount or more, of the product over LANDS, by rising numbers, of "
            + "CHANCE, if it is in the set, otherwise 1.0 - CHANCE (each product begins with 1.0, the sum with 0.0).");
        int[] grades = {3, 7, 0, 5, 6};
        int[] risks = {100, 200, 400, 800, 1600};
        Exportcover x = lands(grades, risks);
        for (int sum = 0; sum <= 3100; sum += 100) {
            check.dueDouble("probable(" + sum + ")", x.probable(sum), chanceOf(grades, risks, sum));
            check.dueDouble("probable(" + (sum + 1) + ")", x.probable(sum + 1), chanceOf(grades, risks, sum + 1));
        }
        check.dueDouble("probable of more than all", x.probable(3101), 0.0);
        check.dueDouble("probable of all without a LAND", new Exportcover().probable(0), 1.0);
        check.dueDouble("probable of a cent without a LAND", new Exportcover().probable(1), 0.0);
    }

    private static double chanceOf(int[] grades, int[] risks, int amount) {
        double sum = 0.0;
        for (int set = 0; set < 1 << grades.length; set++) {
            int together = 0;
            double product = 1.0;
            for (int i = 0; i < grades.length; i++) {
                boolean isIn = (set >> i) % 2 == 1;
                double chance = (grades[i] * grades[i] + 1) / 64.0;
                together += isIn ? risks[i] : 0;
                product *= isIn ? chance : 1.0 - chance;
            }
            sum += together >= amount ? product : 0.0;
        }
        return sum;
    }

    private void strongroom() {
        Check check = said.chapter(8, "The STRONGROOM has a LOCK: who knocks without it is REFUSED (counted).");
        Exportcover x = new Exportcover();
        check.due("REFUSED at first", x.books(19), 0);
        x.knock();
        check.due("REFUSED", x.books(19), 1);
        check.due("knocks of another object", new Exportcover().books(19), 0);
    }

    private void atMost512Calls() {
        Check check = said.whatItIs("An object is used for at most 512 calls after it has been made");
        Exportcover x = new Exportcover();
        for (int call = 1; call < 512; call++) {
            check.due("knock", x.knock(), call);
        }
        check.due("the 512th call", x.books(19), 511);
        Exportcover full = Office.plain();
        int calls = 5;
        for (int i = 0; i < 48; i++) {
            full.ship(0, 0, 10 + i, 30, i % 2 == 0);
        }
        full.link(0, 0, true);
        calls += 49;
        long first = full.digest();
        for (calls++; calls < 511; calls++) {
            full.circles();
        }
        check.due("the 512th call", full.digest(), first);
    }

    private void refusedEver() {
        Check check = said.promise(29, "Returns how many were REFUSED ever, with this.");
        Exportcover x = new Exportcover();
        check.due("the first knock", x.knock(), 1);
        Office.passTo(x, 7200);
        check.due("a knock on the last DAY", x.knock(), 2);
        check.due("isSound()", x.isSound(), true);
    }

    private void whatOfTheBooks() {
        Check check = said.promise(37, "0 DAY, 1 YEAR, 2 LANDS, 3 BUYERS, 4 EXPORTERS, 5 POLICIES, 6 SHIPMENTS, 7 the "
            + "CHEST of the OFFICE, 8 of the RIVAL 0, 9 of the RIVAL 1, 10 of the WORLD, 11 PREMIUMS, 12 CLAIMS, 13 "
            + "RECOVERIES, 14 BALANCE, 15 SHIPMENTS that are CLAIMED, 16 PUT OFF, 17 VOID, 18 SUSPECT ones, 19 how "
            + "many were REFUSED");
        Exportcover x = new Exportcover();
        dueBooks(check, x, 0, 0, 0, 0, 0, 0, 0, 0, 0, 0, 0, 0, 0, 0, 0, 0, 0, 0, 0, 0);
        for (int i = 0; i < 5; i++) {
            x.land(0, 999999);
        }
        for (int i = 0; i < 12; i++) {
            x.buyer(0, 0);
        }
        for (int i = 0; i < 6; i++) {
            x.exporter();
        }
        for (int i = 0; i < 8; i++) {
            x.policy(0, 90, i % 2, 60);
        }
        x.limit(0, 0, 12000);
        x.limit(1, 0, 12000);
        x.ship(0, 0, 12000, 30, true);
        x.ship(1, 0, 12000, 30, false);
        for (int i = 2; i < 48; i++) {
            x.ship(2, 1, 1, 30, false);
        }
        x.link(0, 0, false);
        x.knock();
        x.pass(210);
        x.report(0);
        x.report(1);
        x.claim(0);
        x.claim(1);
        x.salvage(0, 12000);
        x.salvage(1, 12000);
        x.inspect(0);
        x.club(0, 100, 1);
        x.earn(11, 99999);
        Office.passTo(x, 7200);
        int world = -24000 - 99999 - 46;
        int balance = 8 + 8640 - 4320;
        dueBooks(check, x, 7200, 20, 5, 12, 6, 8, 48, balance, 6 + 6480, 6, world, 8, 4320, 8640, balance,
            2, 46, 1, 2, 1);
    }

    private static void dueBooks(Check check, Exportcover x, int... due) {
        check.due("as many as there are", due.length, 20);
        for (int what = 0; what < due.length; what++) {
            check.due("books(" + what + ")", x.books(what), due[what]);
        }
    }

    private void booksBeside() {
        Check check = said.promise(37, "Throws `IllegalArgumentException` if what is not 0 to 19");
        Exportcover x = Office.plain();
        check.noArgumentBeside(x, "books", 0, 19, what -> x.books(what));
        check.due("books(0)", x.books(0), 0);
        check.due("books(19)", x.books(19), 0);
    }

    private void slips() {
        Check check = said.promise(38, "Returns a slip: its number, \": \", the EXPORTER, \">\", the BUYER, \" \", "
            + "LEFT, \"/\", AMOUNT, then \" reported\", \" disputed\", \" claimed\", \" put off\" and \" void\", as "
            + "far as it is so (\"3: 0>2 150/400 reported claimed\").");
        Exportcover x = Office.plain();
        x.buyer(0, 0);
        x.buyer(0, 0);
        x.limit(0, 2, 400);
        for (int i = 0; i < 3; i++) {
            x.ship(0, 1, 1, 30, false);
        }
        x.ship(0, 2, 400, 30, false);
        check.due("slip, nothing so", x.slip(3), "3: 0>2 400/400");
        x.earn(2, 250);
        x.pass(210);
        x.report(3);
        check.due("slip, REPORTED", x.slip(3), "3: 0>2 150/400 reported");
        x.claim(3);
        check.due("the slip told", x.slip(3), "3: 0>2 150/400 reported claimed");
        x.dispute(0);
        check.due("slip, in DISPUTE", x.slip(0), "0: 0>1 1/1 disputed");
        x.report(0);
        check.due("slip, REPORTED, in DISPUTE", x.slip(0), "0: 0>1 1/1 reported disputed");
        x.club(0, 10, 1);
        check.due("slip, PUT OFF too", x.slip(0), "0: 0>1 0/1 reported disputed put off");
        check.due("slip, PUT OFF", x.slip(1), "1: 0>1 0/1 put off");
        check.due("slip, CLAIMED and PUT OFF", x.slip(3), "3: 0>2 15/400 reported claimed put off");
        Exportcover fake = Office.claimedFake();
        fake.inspect(0);
        check.due("slip, CLAIMED and VOID", fake.slip(0), "0: 0>0 1000/1000 reported claimed void");
        Exportcover last = new Exportcover();
        last.land(0, 0);
        for (int i = 0; i < 12; i++) {
            last.buyer(0, 0);
        }
        for (int i = 0; i < 6; i++) {
            last.exporter();
        }
        last.policy(5, 50, -1, 0);
        for (int i = 0; i < 48; i++) {
            last.ship(0, 11, 99999, 30, true);
        }
        last.dispute(47);
        last.inspect(47);
        check.due("the longest number", last.slip(47), "47: 5>11 99999/99999 disputed void");
        check.due("FAKE alone is not told", last.slip(46), "46: 5>11 99999/99999");
    }

    private void slipOfNone() {
        Check check = said.promise(38, "Throws `IndexOutOfBoundsException` if there is no such SHIPMENT");
        Exportcover none = Office.plain();
        check.noIndexBeside(none, "slip without a SHIPMENT", 0, shipment -> none.slip(shipment));
        Exportcover x = Office.due(1);
        check.noIndexBeside(x, "slip", 1, shipment -> x.slip(shipment));
    }

    private void expected() {
        Check check = said.promise(43, "Returns EXPECTED.");
        check.dueDouble("expected without a LAND", new Exportcover().expected(), 0.0);
        check.dueDouble("expected without a SHIPMENT", Office.ofClass(7).expected(), 0.0);
        int[] worst = {7, 7, 7, 7, 7};
        int[] most = {12000, 12000, 12000, 12000, 12000};
        check.dueDouble("expected of all", lands(worst, most).expected(), 46875.0);
    }

    private void probable() {
        Check check = said.promise(44, "Returns PROBABLE for it.");
        Exportcover x = Office.ofClass(7);
        check.dueDouble("probable(0) without a SHIPMENT", x.probable(0), 1.0);
        check.dueDouble("probable(1) without a SHIPMENT", x.probable(1), 0.0);
        x.ship(0, 0, 100, 30, false);
        check.dueDouble("probable(0)", x.probable(0), 1.0);
        check.dueDouble("probable(1)", x.probable(1), 50 / 64.0);
        check.dueDouble("probable of as much", x.probable(100), 50 / 64.0);
        check.dueDouble("probable of one more", x.probable(101), 0.0);
        check.dueDouble("probable of the highest number", x.probable(Integer.MAX_VALUE), 0.0);
    }

    private void probableBelow() {
        Check check = said.promise(44, "Throws `IllegalArgumentException` if amount is below 0");
        Exportcover x = Office.plain();
        check.noArgument(x, "probable(-1)", () -> x.probable(-1));
        check.noArgument(x, "probable of the least number", () -> x.probable(Integer.MIN_VALUE));
        check.dueDouble("probable(0)", x.probable(0), 1.0);
    }

    private void startOfTheDigest() {
        Check check = said.promise(46, "A number d starts with 58265;");
        check.due("digest of a new object", new Exportcover().digest(), Digests.reckoned(new Exportcover()));
        check.due("digest of a new object", new Exportcover().digest(), -8735486752297981798L);
    }

    private void wrapsAround() {
        Check check = said.promise(46, "then d becomes d * 31 + v, which wraps around as a 64-bit integer, for each v "
            + "in this order: books() of 0 to 19;");
        Exportcover x = Office.claimed();
        x.knock();
        BigInteger d = BigInteger.valueOf(Digests.START);
        for (long v : Digests.values(x)) {
            d = d.multiply(BigInteger.valueOf(31)).add(BigInteger.valueOf(v));
        }
        check.due("d is too large for 64 bits", d.bitLength() > 64, true);
        check.due("digest", x.digest(), d.longValue());
        Exportcover y = new Exportcover();
        long before = y.digest();
        y.knock();
        check.due("one more REFUSED, four numbers ahead of the end", y.digest() - before, 31L * 31 * 31 * 31);
    }

    private void digestOfLands() {
        Check check = said.promise(46, "LAND by LAND ofLand() of 0 to 8;");
        Exportcover x = new Exportcover();
        x.land(7, 999999);
        x.land(0, 0);
        x.stop(0, true);
        x.notice(1, 999);
        check.due("digest", x.digest(), Digests.reckoned(x));
    }

    private void digestOfBuyers() {
        Check check = said.promise(46, "BUYER by BUYER ofBuyer() of 0 to 5;");
        Exportcover x = new Exportcover();
        x.land(1, 1);
        x.buyer(0, 5);
        x.buyer(0, 0);
        x.earn(1, 99999);
        x.broke(0);
        check.due("digest", x.digest(), Digests.reckoned(x));
    }

    private void digestOfExporters() {
        Check check = said.promise(46, "EXPORTER by EXPORTER ofExporter() of 0 to 5;");
        Exportcover x = new Exportcover();
        x.market(99);
        x.link(2, 5, true);
        x.link(0, 4, false);
        check.due("digest", x.digest(), Digests.reckoned(x));
    }

    private void digestOfPolicies() {
        Check check = said.promise(46, "POLICY by POLICY ofPolicy() of 0 to 6, and BUYER by BUYER granted(): what is "
            + "GRANTED, then what is AT RISK;");
        Exportcover x = Office.plain();
        x.buyer(0, 5);
        x.policy(0, 50, -1, 0);
        x.limit(1, 1, 2000);
        x.ship(0, 0, 7, 30, false);
        x.ship(1, 1, 99999, 30, false);
        x.bribe(0);
        check.due("digest", x.digest(), Digests.reckoned(x));
    }

    private void digestOfShipments() {
        Check check = said.promise(46, "SHIPMENT by SHIPMENT ofShipment() of 0 to 16, for whose of 0 to 2 part(), the "
            + "PART and what was had, when(), and how many signs slip() has;");
        Exportcover x = Office.claimed();
        x.salvage(0, 16);
        x.ship(0, 0, 600, 30, true);
        x.dispute(1);
        check.due("digest", x.digest(), Digests.reckoned(x));
        x.club(0, 10, 10);
        x.inspect(1);
        check.due("digest", x.digest(), Digests.reckoned(x));
    }

    private void digestOfCircles() {
        Check check = said.promise(46, "circles();");
        Exportcover x = Office.plain();
        x.ship(0, 0, 1, 30, false);
        x.link(0, 0, true);
        List<Long> values = Digests.values(x);
        check.due("circles, four numbers from the end", values.get(values.size() - 4), 1);
        check.due("digest", x.digest(), Digests.reckoned(x));
    }

    /** 1024 * (5 / 64 * 10 / 64) is 12.5. */
    private void digestOfDoubles() {
        Check check = said.promise(46,
            "1024 times expected() and 1024 times probable(1000), each product cut to a whole number, as (long) does;");
        int[] grades = {2, 3};
        int[] risks = {500, 500};
        Exportcover x = lands(grades, risks);
        check.dueDouble("probable(1000)", 1024 * x.probable(1000), 12.5);
        List<Long> values = Digests.values(x);
        check.due("1024 times expected()", values.get(values.size() - 3), (5 + 10) * 500 * 16);
        check.due("1024 times probable(1000), cut", values.get(values.size() - 2), 12);
        check.due("digest", x.digest(), Digests.reckoned(x));
        int[] worst = {7, 7, 7, 7, 7};
        int[] enough = {1000, 1000, 1000, 1000, 1000};
        values = Digests.values(lands(worst, enough));
        check.due("1024 times what is nearly 1", values.get(values.size() - 2), 1023);
        check.due("digest", lands(worst, enough).digest(), Digests.reckoned(lands(worst, enough)));
        for (int risk = 999; risk <= 1001; risk++) {
            Exportcover beside = Office.ofClass(6);
            beside.ship(0, 0, risk, 30, false);
            values = Digests.values(beside);
            check.due("probable(1000) with " + risk, values.get(values.size() - 2), risk < 1000 ? 0 : 37 * 16);
            check.due("digest with " + risk, beside.digest(), Digests.reckoned(beside));
        }
    }
}
