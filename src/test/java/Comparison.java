import java.util.Arrays;

/** Asks the program all it can be asked about a text, and the model, which runs all INPUTS. */
final class Comparison {
    private final Tally tally;
    private final String name;
    private final Model model;
    private final RunProver prover;

    Comparison(Tally tally, String name, String text, RunProver prover) {
        this.tally = tally;
        this.prover = prover;
        this.name = name + " ";
        model = new Model(text);
        Tally.give(prover, text);
    }

    void all() {
        int checks = prover.read();
        tally.due(name + "fault", model.fault, prover.fault(0));
        tally.due(name + "place", model.faultPlace, prover.fault(1));
        if (model.fault != 0) {
            tally.due(name + "read", -1, checks);
            return;
        }
        tally.due(name + "read", model.checks.size(), checks);
        tally.due(name + "inputs", model.inputSizes.size(), prover.count(1));
        tally.due(name + "bits", (int) model.bits, prover.count(2));
        tally.due(name + "names", model.slots.size(), prover.count(3));
        tally.due(name + "costs", (int) model.costs, prover.count(4));
        tally.due(name + "width", model.width, prover.count(6));
        runs();
        questions();
        tally.due(name + "doubts", 0, prover.doubts());
    }

    private void runs() {
        int all = 1 << model.bits;
        int step = Math.max(1, all / 16);
        for (int k = 0; k < all; k += step) {
            int[] with = model.inputsAt(k);
            for (int i = 0; i < with.length; i++) {
                prover.put(i, with[i]);
                tally.due(name + "input", with[i], prover.input(i));
            }
            model.run(with);
            tally.due(name + "run " + k, model.result, prover.run());
            for (int n = 0; n < model.slots.size(); n++) {
                for (int e = 0; e < model.slots.get(n).size; e++) {
                    tally.due(name + "value " + k + " " + n + " " + e, model.held(n, e), prover.value(n, e));
                }
            }
        }
    }

    private void questions() {
        int all = 1 << model.bits;
        int checks = model.checks.size();
        int last = model.slots.size() - 1;
        int size = model.slots.get(last).size;
        int[] breaks = new int[checks];
        int[] reaches = new int[checks];
        int[] ends = new int[1 << model.width];
        int[] endsLast = new int[1 << model.width];
        Arrays.fill(breaks, -1);
        Arrays.fill(reaches, -1);
        Arrays.fill(ends, -1);
        Arrays.fill(endsLast, -1);
        int proved = -1;
        int provedBy = -1;
        for (int k = all - 1; k >= 0; k--) {
            model.run(model.inputsAt(k));
            for (int c = 0; c < checks; c++) {
                reaches[c] = model.came(c) ? k : reaches[c];
            }
            if (model.result >= 0) {
                breaks[model.result] = k;
                proved = model.result;
                provedBy = k;
            } else if (model.result == -1) {
                ends[model.held(0, 0)] = k;
                endsLast[model.held(last, size - 1)] = k;
            }
        }
        int now = all - 1;
        put(now);
        tally.due(name + "prove", proved, prover.prove());
        now = provedBy >= 0 ? provedBy : now;
        same(name + "prove", now);
        for (int c = 0; c < checks; c++) {
            tally.due(name + "breaks " + c, breaks[c] >= 0 ? 1 : 0, prover.breaks(c));
            now = breaks[c] >= 0 ? breaks[c] : now;
            same(name + "breaks " + c, now);
            tally.due(name + "reaches " + c, reaches[c] >= 0 ? 1 : 0, prover.reaches(c));
            now = reaches[c] >= 0 ? reaches[c] : now;
            same(name + "reaches " + c, now);
        }
        for (int v = 0; v < ends.length; v += 1 + ends.length / 8) {
            tally.due(name + "ends " + v, ends[v] >= 0 ? 1 : 0, prover.ends(0, 0, v));
            now = ends[v] >= 0 ? ends[v] : now;
            same(name + "ends " + v, now);
            tally.due(name + "ends last " + v, endsLast[v] >= 0 ? 1 : 0, prover.ends(last, size - 1, v));
            now = endsLast[v] >= 0 ? endsLast[v] : now;
            same(name + "ends last " + v, now);
        }
    }

    private void put(int number) {
        int[] with = model.inputsAt(number);
        for (int i = 0; i < with.length; i++) {
            prover.put(i, with[i]);
        }
    }

    private void same(String call, int number) {
        int[] with = model.inputsAt(number);
        for (int i = 0; i < with.length; i++) {
            tally.due(call + " input " + i, with[i], prover.input(i));
        }
    }
}
