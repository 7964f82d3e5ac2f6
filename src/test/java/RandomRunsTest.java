/**
 * Long runs with ordinary and wild arguments, from a row of numbers that is always the same: a call throws what
 * the document names and nothing else, what throws changes nothing, and the books stay sound.
 */
public final class RandomRunsTest {
    private static final int CALLS = 28;
    /** With the questions between them these stay under 512 calls. */
    private static final int STEPS = 180;
    private static final int[] WILD = {Integer.MIN_VALUE, Integer.MAX_VALUE, -2, -1, 47, 48, 100000, 1 << 30};

    private final Check check;
    private final Exportcover x = new Exportcover();
    private long number;
    private int most = 12;

    private RandomRunsTest(Check check, int seed) {
        this.check = check;
        this.number = seed * 2862933555777941757L + 3037000493L;
    }

    public static void main(String[] args) {
        Check check = new Check();
        for (int seed = 0; seed < 400; seed++) {
            new RandomRunsTest(check, seed).run();
        }
        for (int seed = 0; seed < 200; seed++) {
            new RandomRunsTest(check, 1000 + seed).runOfFew();
        }
        check.end();
    }

    private void run() {
        begin(6, 4, 6);
        long before = x.digest();
        for (int step = 0; step < STEPS; step++) {
            int which = below(CALLS + 18);
            boolean hasThrown = hasThrown(which);
            long behind = x.digest();
            if (hasThrown || which >= CALLS) {
                check.due("the digest behind a throw or a question, " + which, behind, before);
            }
            before = behind;
        }
        check.due("isSound()", x.isSound(), true);
    }

    /** So few of all that the digest can be reckoned within 512 calls. */
    private void runOfFew() {
        most = 2;
        begin(2, 2, 2);
        for (int step = 0; step < 100; step++) {
            int which = 13 + below(CALLS - 13);
            if (which != 13 && (which != 17 || x.books(6) < 5)) {
                hasThrown(which);
            }
        }
        check.due("the digest", x.digest(), Digests.reckoned(x));
    }

    private void begin(int buyers, int exporters, int policies) {
        x.land(below(8), below(30000));
        x.land(below(4), below(30000));
        for (int i = 0; i < buyers; i++) {
            x.buyer(below(2), below(6));
        }
        for (int i = 0; i < exporters; i++) {
            x.exporter();
        }
        for (int i = 0; i < policies; i++) {
            int rival = below(3) - 1;
            x.policy(below(exporters), 50 + below(46), rival, rival < 0 ? 0 : below(61));
            x.limit(i, below(buyers), below(20000));
        }
    }

    private int below(int bound) {
        number = number * 6364136223846793005L + 1442695040888963407L;
        return (int) ((number >>> 33) % bound);
    }

    /** Mostly what is allowed, now and then what lies far off. */
    private int some(int least, int bound) {
        if (below(60) == 0) {
            return WILD[below(WILD.length)];
        }
        return least + below(bound);
    }

    private int one() {
        return some(0, most);
    }

    private int shipment() {
        return some(0, Math.max(1, x.books(6)));
    }

    private boolean hasThrown(int which) {
        try {
            if (which < 14) {
                tell(which);
            } else if (which < CALLS) {
                trade(which);
            } else {
                ask(which - CALLS);
            }
            return false;
        } catch (RuntimeException thrown) {
            Class<?> kind = thrown.getClass();
            boolean isNamed = kind == IndexOutOfBoundsException.class || kind == IllegalArgumentException.class
                || kind == IllegalStateException.class;
            check.due("call " + which + " threw what is named, not " + thrown, isNamed, true);
            check.due("it was thrown by the class's own words", Check.isWritten(thrown), true);
            return true;
        }
    }

    private void tell(int which) {
        switch (which) {
            case 0: x.market(some(0, 100)); break;
            case 1: x.land(some(0, 8), some(0, 40000)); break;
            case 2: x.vote(one(), some(0, 8), some(0, 8), some(0, 8)); break;
            case 3: x.ceiling(one(), some(0, 40000)); break;
            case 4: x.close(one(), below(4) == 0); break;
            case 5: x.stop(one(), below(3) == 0); break;
            case 6: x.war(one(), below(3) == 0); break;
            case 7: x.buyer(one(), some(0, 6)); break;
            case 8: x.earn(one(), some(1, 3000)); break;
            case 9: x.broke(below(4) == 0 ? one() : -1); break;
            case 10: x.exporter(); break;
            case 11: x.link(one(), one(), below(2) == 0); break;
            case 12: x.notice(one(), some(1, 60)); break;
            default: x.policy(one(), some(50, 46), some(-1, 3), some(0, 61)); break;
        }
    }

    private void trade(int which) {
        switch (which) {
            case 14: x.limit(one(), one(), some(0, 12000)); break;
            case 15: x.cut(one(), one(), some(0, 9000)); break;
            case 16: x.pass(some(1, 60)); break;
            case 17: ship(); break;
            case 18: x.pay(one(), some(1, 2000)); break;
            case 19: x.report(shipment()); break;
            case 20: x.dispute(shipment()); break;
            case 21: x.judge(shipment(), below(3) != 0); break;
            case 22: x.claim(shipment()); break;
            case 23: x.salvage(shipment(), some(1, 900)); break;
            case 24: x.club(one(), some(10, 91), some(1, 10)); break;
            case 25: x.inspect(shipment()); break;
            case 26: x.bribe(below(4) == 0 ? one() : -1); break;
            default: x.knock(); break;
        }
    }

    /** What would be INSURED is INSURED then. */
    private void ship() {
        int policy = one();
        int buyer = one();
        int amount = some(1, 5000);
        int term = some(30, 500);
        int insured = x.wouldInsure(policy, buyer, amount, term, false);
        int reason = x.wouldInsure(policy, buyer, amount, term, true);
        int rate = x.rate(x.ofBuyer(buyer, 0), x.ofBuyer(buyer, 1), term);
        int sailed = x.ship(policy, buyer, amount, term, below(4) == 0);
        check.due("INSURED", x.ofShipment(sailed, 6), insured);
        check.due("REASON", x.ofShipment(sailed, 7), reason);
        check.due("RATE", x.ofShipment(sailed, 8), rate);
    }

    private void ask(int which) {
        switch (which) {
            case 0: x.ofLand(one(), some(0, 9)); break;
            case 1: x.ofBuyer(one(), some(0, 6)); break;
            case 2: x.ofExporter(one(), some(0, 6)); break;
            case 3: x.ofPolicy(one(), some(0, 7)); break;
            case 4: x.granted(one(), one(), below(2) == 0); break;
            case 5: x.ofShipment(shipment(), some(0, 17)); break;
            case 6: x.part(shipment(), some(0, 3), below(2) == 0); break;
            case 7: x.books(some(0, 20)); break;
            case 8: x.slip(shipment()); break;
            case 9: x.rate(one(), some(0, 6), some(30, 3571)); break;
            case 10: x.wouldInsure(one(), one(), some(1, 9999), some(30, 3571), below(2) == 0); break;
            case 11: x.when(shipment()); break;
            case 12: x.circles(); break;
            case 13: x.expected(); break;
            case 14: x.probable(some(0, 9000)); break;
            case 15: check.due("isSound()", x.isSound(), true); break;
            case 16: dueClaimAsTold(); break;
            default: dueMoneyToBeNone(); break;
        }
    }

    /** One can CLAIM from the DAY on that when() tells, if it is REPORTED. */
    private void dueClaimAsTold() {
        int shipment = shipment();
        int from = x.when(shipment);
        boolean isReported = (x.ofShipment(shipment, 11) & 1) != 0;
        if (from < 0 || x.books(0) < from || !isReported) {
            check.noState(x, "claim(" + shipment + ")", () -> x.claim(shipment));
        }
    }

    private void dueMoneyToBeNone() {
        int sum = x.books(7) + x.books(8) + x.books(9) + x.books(10);
        for (int i = 0; i < x.books(3); i++) {
            sum += x.ofBuyer(i, 3);
        }
        for (int i = 0; i < x.books(4); i++) {
            sum += x.ofExporter(i, 0);
        }
        check.due("all CHESTS together", sum, 0);
    }
}
