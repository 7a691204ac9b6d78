/** Promises 4 and 5: the FAULTS of spoilt texts, against the model's. */
public final class SpoiltTest {
    private static final Tally TALLY = new Tally("SpoiltTest");

    public static void main(String[] args) {
        int texts = args.length > 0 ? Integer.parseInt(args[0]) : 20000;
        long base = args.length > 1 ? Long.parseLong(args[1]) : 0;
        RunProver prover = new RunProver();
        for (long seed = base; seed < base + texts; seed++) {
            Generator generator = new Generator(seed);
            String text = seed % 2 == 0 ? generator.spoilt() : generator.jumble();
            Model model = new Model(text);
            Tally.give(prover, text);
            int checks = prover.read();
            TALLY.due(seed + " read of " + text, model.fault != 0 ? -1 : model.checks.size(), checks);
            TALLY.due(seed + " fault of " + text, model.fault, prover.fault(0));
            TALLY.due(seed + " place of " + text, model.faultPlace, prover.fault(1));
        }
        TALLY.close();
    }
}
