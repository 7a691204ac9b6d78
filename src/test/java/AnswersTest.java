/** Promises 4 and 6 to 16, on texts by chance: every answer against the model's, found by running all INPUTS. */
public final class AnswersTest {
    private static final Tally TALLY = new Tally("AnswersTest");

    public static void main(String[] args) {
        int texts = args.length > 0 ? Integer.parseInt(args[0]) : 1500;
        long base = args.length > 1 ? Long.parseLong(args[1]) : 0;
        for (long seed = base; seed < base + texts; seed++) {
            compare(seed, new Generator(seed).text(seed % 10 == 0 ? 12 : 7));
        }
        TALLY.close();
    }

    private static void compare(long seed, String text) {
        Model model = new Model(text);
        RunProver prover = new RunProver();
        Tally.give(prover, text);
        int checks = prover.read();
        String name = "text " + seed + " ";
        TALLY.due(name + "fault", model.fault, prover.fault(0));
        TALLY.due(name + "place", model.faultPlace, prover.fault(1));
        if (model.fault != 0) {
            TALLY.due(name + "read", -1, checks);
            return;
        }
        TALLY.due(name + "read", model.checks.size(), checks);
        TALLY.due(name + "inputs", model.inputSizes.size(), prover.count(1));
        TALLY.due(name + "bits", (int) model.bits, prover.count(2));
        TALLY.due(name + "names", model.slots.size(), prover.count(3));
        TALLY.due(name + "costs", (int) model.costs, prover.count(4));
        TALLY.due(name + "width", model.width, prover.count(6));
        runs(name, model, prover);
        questions(name, model, prover);
        TALLY.due(name + "doubts", 0, prover.doubts());
    }

    private static void runs(String name, Model model, RunProver prover) {
        int all = 1 << model.bits;
        int step = Math.max(1, all / 16);
        for (int k = 0; k < all; k += step) {
            int[] with = model.inputsAt(k);
            for (int i = 0; i < with.length; i++) {
                prover.put(i, with[i]);
                TALLY.due(name + "input", with[i], prover.input(i));
            }
            model.run(with);
            TALLY.due(name + "run " + k, model.result, prover.run());
            for (int n = 0; n < model.slots.size(); n++) {
                for (int e = 0; e < model.slots.get(n).size; e++) {
                    TALLY.due(name + "value " + k + " " + n + " " + e, model.held(n, e), prover.value(n, e));
                }
            }
        }
    }

    private static void questions(String name, Model model, RunProver prover) {
        int all = 1 << model.bits;
        int checks = model.checks.size();
        int last = model.slots.size() - 1;
        int size = model.slots.get(last).size;
        int[] breaks = new int[checks];
        int[] reaches = new int[checks];
        int[] ends = new int[1 << model.width];
        int[] endsLast = new int[1 << model.width];
        java.util.Arrays.fill(breaks, -1);
        java.util.Arrays.fill(reaches, -1);
        java.util.Arrays.fill(ends, -1);
        java.util.Arrays.fill(endsLast, -1);
        int proved = -1;
        int provedBy = -1;
        for (int k = all - 1; k >= 0; k--) {
            model.run(model.inputsAt(k));
            for (int c = 0; c < checks; c++) {
                reaches[c] = model.came(c) ? k : reaches[c];
            }
            if (model.result >= 0) {
                breaks[model.result] = k;
                proved = model.result;
                provedBy = k;
            } else if (model.result == -1) {
                ends[model.held(0, 0)] = k;
                endsLast[model.held(last, size - 1)] = k;
            }
        }
        int now = all - 1;
        put(model, prover, now);
        TALLY.due(name + "prove", proved, prover.prove());
        now = provedBy >= 0 ? provedBy : now;
        same(name + "prove", model, prover, now);
        for (int c = 0; c < checks; c++) {
            TALLY.due(name + "breaks " + c, breaks[c] >= 0 ? 1 : 0, prover.breaks(c));
            now = breaks[c] >= 0 ? breaks[c] : now;
            same(name + "breaks " + c, model, prover, now);
            TALLY.due(name + "reaches " + c, reaches[c] >= 0 ? 1 : 0, prover.reaches(c));
            now = reaches[c] >= 0 ? reaches[c] : now;
            same(name + "reaches " + c, model, prover, now);
        }
        for (int v = 0; v < ends.length; v += 1 + ends.length / 8) {
            TALLY.due(name + "ends " + v, ends[v] >= 0 ? 1 : 0, prover.ends(0, 0, v));
            now = ends[v] >= 0 ? ends[v] : now;
            same(name + "ends " + v, model, prover, now);
            TALLY.due(name + "ends last " + v, endsLast[v] >= 0 ? 1 : 0, prover.ends(last, size - 1, v));
            now = endsLast[v] >= 0 ? endsLast[v] : now;
            same(name + "ends last " + v, model, prover, now);
        }
    }

    private static void put(Model model, RunProver prover, int number) {
        int[] with = model.inputsAt(number);
        for (int i = 0; i < with.length; i++) {
            prover.put(i, with[i]);
        }
    }

    private static void same(String name, Model model, RunProver prover, int number) {
        int[] with = model.inputsAt(number);
        for (int i = 0; i < with.length; i++) {
            TALLY.due(name + " input " + i, with[i], prover.input(i));
        }
    }
}
