/** VALUES: every sign on every pair of operands, for the small widths, by run and value. */
public final class OperatorsTest {
    private static final Tally TALLY = new Tally("OperatorsTest");
    private static final String[] EXPRESSIONS = {"x || y", "x && y", "x | y", "x ^ y", "x & y", "x == y",
        "x != y", "x < y", "x <= y", "x > y", "x >= y", "x << y", "x >> y", "x + y", "x - y", "x * y",
        "x / y", "x % y", "less(x, y)", "-x", "~x", "!x", "x ? y : ~y", "t[x]", "x - y - x", "x / y * y",
        "x << y >> y", "-x * -y", "!x == y", "~x & y | x ^ y", "f(x, y)"};

    public static void main(String[] args) {
        for (int width = 1; width <= 5; width++) {
            for (String expression : EXPRESSIONS) {
                compare(width, expression);
            }
        }
        for (String expression : new String[] {"x / y", "x % y", "x * y", "x << y", "x >> y", "less(x, y)", "t[x]"}) {
            compare(6, expression);
            atTheEdges(expression);
        }
        TALLY.close();
    }

    private static String text(int width, int bits, String expression) {
        return "width " + width + "; var x; var y; var z; var t[11]; fun f(p, q) = q - p; any x : " + bits
            + "; any y : " + bits + "; if t[0] == 0 { t[0] = 1; " + (width > 1 ? "t[2] = y; " : "")
            + (width > 3 ? "t[10] = ~y; t[9] = 3; " : "") + "} z = " + expression + ";";
    }

    private static void compare(int width, String expression) {
        String text = text(width, width, expression);
        RunProver prover = Tally.reading(text);
        Model model = new Model(text);
        for (int k = 0; k < 1 << 2 * width; k++) {
            int[] with = model.inputsAt(k);
            prover.put(0, with[0]);
            prover.put(1, with[1]);
            model.run(with);
            TALLY.due(expression + " of " + with[0] + ", " + with[1] + " by " + width, model.held(2, 0), prover.value(2, 0));
        }
    }

    /** Eight bits: the operands are six of them, spread over the range. */
    private static void atTheEdges(String expression) {
        String spread = expression.replace("x", "(x * 4 + x / 16)").replace("y", "(y * 4 + y % 4)");
        String text = text(8, 6, spread);
        RunProver prover = Tally.reading(text);
        Model model = new Model(text);
        TALLY.due(expression + " is right", 0, model.fault);
        for (int k = 0; k < 4096; k += 7) {
            int[] with = model.inputsAt(k);
            prover.put(0, with[0]);
            prover.put(1, with[1]);
            model.run(with);
            TALLY.due(spread + " of " + with[0] + ", " + with[1], model.held(2, 0), prover.value(2, 0));
        }
    }
}
