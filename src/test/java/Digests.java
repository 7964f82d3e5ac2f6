import java.util.ArrayList;
import java.util.List;

/** Reckons the digest from the public answers, as promise 46 tells it. */
final class Digests {
    static final long START = 58265;

    private final List<Long> values = new ArrayList<>();

    private Digests() {
    }

    static long reckoned(Exportcover x) {
        long d = START;
        for (long v : values(x)) {
            d = d * 31 + v;
        }
        return d;
    }

    /** What goes into the digest, in its order. */
    static List<Long> values(Exportcover x) {
        Digests sum = new Digests();
        for (int what = 0; what <= 19; what++) {
            sum.add(x.books(what));
        }
        sum.addPeople(x);
        sum.addPolicies(x);
        sum.addShipments(x);
        sum.add(x.circles());
        sum.add((long) (1024 * x.expected()));
        sum.add((long) (1024 * x.probable(1000)));
        sum.add(x.isSound() ? 1 : 0);
        return sum.values;
    }

    private void add(long v) {
        values.add(v);
    }

    private void addPeople(Exportcover x) {
        for (int land = 0; land < x.books(2); land++) {
            for (int what = 0; what <= 8; what++) {
                add(x.ofLand(land, what));
            }
        }
        for (int buyer = 0; buyer < x.books(3); buyer++) {
            for (int what = 0; what <= 5; what++) {
                add(x.ofBuyer(buyer, what));
            }
        }
        for (int exporter = 0; exporter < x.books(4); exporter++) {
            for (int what = 0; what <= 5; what++) {
                add(x.ofExporter(exporter, what));
            }
        }
    }

    private void addPolicies(Exportcover x) {
        for (int policy = 0; policy < x.books(5); policy++) {
            for (int what = 0; what <= 6; what++) {
                add(x.ofPolicy(policy, what));
            }
            for (int buyer = 0; buyer < x.books(3); buyer++) {
                add(x.granted(policy, buyer, true));
                add(x.granted(policy, buyer, false));
            }
        }
    }

    private void addShipments(Exportcover x) {
        for (int shipment = 0; shipment < x.books(6); shipment++) {
            for (int what = 0; what <= 16; what++) {
                add(x.ofShipment(shipment, what));
            }
            for (int whose = 0; whose <= 2; whose++) {
                add(x.part(shipment, whose, false));
                add(x.part(shipment, whose, true));
            }
            add(x.when(shipment));
            add(x.slip(shipment).length());
        }
    }
}
