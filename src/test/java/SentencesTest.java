import java.io.IOException;

/** Each sentence of the document that names an edge has a test of its own, which begins by quoting it. */
public final class SentencesTest {
    /** What names no edge: it tells who does what, or repeats what another sentence bounds. */
    private static final String[][] PLAIN = {
        {"what it is", "An office that insures that far buyers pay."},
        {"what it is", "Its calls: lands are classed by votes, stopped, at war, closed;"},
        {"what it is", "exporters, buyers and rivals are told, policies written"},
        {"what it is", "days go by."},
        {"what it is", "One asks for rates, covers, causes"},
        {"what it is", "what later calls answer is free."},
        {"chapter 0", "Whole numbers (cents, where money is told), but where doubles are told."},
        {"chapter 8", "The constructor and the methods follow"},
        {"promise 2", "Founds a MARKET."},
        {"promise 3", "Tells a LAND."},
        {"promise 4", "Three rivals VOTE on a LAND."},
        {"promise 5", "Tells a CEILING."},
        {"promise 9", "Tells a BUYER."},
        {"promise 10", "A BUYER EARNS."},
        {"promise 12", "Tells an EXPORTER."},
        {"promise 15", "Writes a POLICY."},
        {"promise 16", "Asks for a LIMIT."},
        {"promise 19", "A BUYER pays."},
        {"promise 20", "A SHIPMENT is REPORTED."},
        {"promise 21", "A SHIPMENT is in DISPUTE."},
        {"promise 22", "A DISPUTE is judged."},
        {"promise 23", "CLAIMS for a SHIPMENT."},
        {"promise 24", "SALVAGE comes for a SHIPMENT."},
        {"promise 25", "The CLUB puts off debts of a LAND."},
        {"promise 26", "INSPECTS a SHIPMENT."},
        {"promise 27", "BRIBES of an EXPORTER are found."},
        {"promise 29", "Knocks at the STRONGROOM."},
        {"promise 30", "Returns that."},
        {"promise 31", "Returns that."},
        {"promise 32", "Returns that."},
        {"promise 33", "Returns that."},
        {"promise 35", "Returns that."},
        {"promise 37", "Returns that."},
        {"promise 46", "Computes a checksum."},
        {"promise 46", "Returns d."},
    };

    public static void main(String[] args) throws IOException {
        Check check = new Check();
        Sentences said = new Sentences(check);
        new DayEdges(said).run();
        new LandEdges(said).run();
        new BuyerEdges(said).run();
        new RateEdges(said).run();
        new PolicyEdges(said).run();
        new ShipmentEdges(said).run();
        new PaymentEdges(said).run();
        new ClaimEdges(said).run();
        new RecoveryEdges(said).run();
        new FakeEdges(said).run();
        new BookEdges(said).run();
        new SoundnessEdges(said).run();
        new RefusalEdges(said).run();
        said.nameNoEdge(PLAIN);
        said.dueAllQuoted();
        check.end();
    }
}
