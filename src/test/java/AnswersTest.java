/** Promises 4 and 6 to 16 on texts by chance: every answer is held against the model's. */
public final class AnswersTest {
    public static void main(String[] args) {
        Tally tally = new Tally("AnswersTest");
        int texts = args.length > 0 ? Integer.parseInt(args[0]) : 1500;
        long base = args.length > 1 ? Long.parseLong(args[1]) : 0;
        RunProver prover = new RunProver();
        for (long seed = base; seed < base + texts; seed++) {
            String text = new Generator(seed).text(seed % 10 == 0 ? 12 : 7);
            // one object for two texts, so that what the first leaves behind would be seen in the second
            prover = (seed - base) % 2 == 0 ? new RunProver() : prover;
            new Comparison(tally, "text " + seed, text, prover).all();
        }
        tally.close();
    }
}
