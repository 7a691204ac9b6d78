/** Terms, VALUES: for each width what comes of the least and the greatest VALUES and those beside an edge. */
public final class ValueEdgesTest {
    private static final Tally TALLY = new Tally("ValueEdgesTest");

    private static int width;
    private static int most;
    private static int half;

    public static void main(String[] args) {
        for (width = 1; width <= 8; width++) {
            most = (1 << width) - 1;
            half = 1 << width - 1;
            moduloTwoToTheWidth();
            before();
            divisionByNothing();
            shifts();
            comparisons();
            belowWithSign();
            trueIfNotNothing();
            choices();
            beyondAnArray();
            beyondAnArrayOfMoreThanThereAreValues();
        }
        TALLY.close();
    }

    /**
     * What is due of an EXPRESSION of a and b: with NUMBERS, and with INPUTS in the place of either or
     * of both, as far as 12 bits go.
     */
    private static void due(String expression, int a, int b, int due) {
        String numbers = expression.replaceAll("\\ba\\b", String.valueOf(a)).replaceAll("\\bb\\b", String.valueOf(b));
        one("z = " + numbers + ";", expression, due);
        one("any a : " + width + "; b = " + b + "; z = " + expression + ";", expression, due, a);
        one("a = " + a + "; any b : " + width + "; z = " + expression + ";", expression, due, b);
        if (2 * width <= 12) {
            one("any a : " + width + "; any b : " + width + "; z = " + expression + ";", expression, due, a, b);
        }
    }

    private static void one(String statements, String expression, int due, int... inputs) {
        StringBuilder fixed = new StringBuilder("width " + width + "; var z; var a; var b; var n; ");
        RunProver x = Tally.reading(fixed + statements);
        StringBuilder what = new StringBuilder("width " + width + ": " + statements);
        for (int i = 0; i < inputs.length; i++) {
            x.put(i, inputs[i]);
            what.append(" with ").append(inputs[i]);
        }
        TALLY.due(what.toString(), due, x.value(0, 0));
        TALLY.due(what + ": run", -1, x.run());
        if (inputs.length == 1) {
            // the search must come to the same: no other VALUE ends there if the INPUT is this one
            String alone = statements.replace("; z =", "; assume a == " + x.value(1, 0) + " && b == " + x.value(2, 0) + "; z =");
            RunProver y = Tally.reading(fixed + alone);
            TALLY.due(what + ": ends", 1, y.ends(0, 0, due));
            TALLY.due(what + ": by", inputs[0], y.input(0));
            TALLY.due(what + ": ends otherwise", 0, y.ends(0, 0, due ^ 1));
            TALLY.due(what + ": doubts", 0, y.doubts());
        }
    }

    /** All results modulo 2^W. */
    private static void moduloTwoToTheWidth() {
        due("a + b", most, 1, 0);
        due("a + b", most - 1, 1, most);
        due("a + b", most, most, most - 1);
        due("a + b", half, half, 0);
        due("a - b", 0, 1, most);
        due("a - b", 1, 1, 0);
        due("a - b", 0, most, 1);
        due("a - b", 0, 0, 0);
        due("a * b", most, most, 1);
        due("a * b", half, half, width == 1 ? 1 : 0);
        due("a * b", half, most, half);
        due("a * b", most, 0, 0);
        due("a * b", 1, most, most);
        due("a << b", most, 1, most - 1 & ~1);
    }

    /** - before: 0 less it; ~: all bits turned; !: 1 of 0, else 0. */
    private static void before() {
        due("-a", 0, 0, 0);
        due("-a", 1, 0, most);
        due("-a", most, 0, 1);
        due("-a", half, 0, half);
        due("~a", 0, 0, most);
        due("~a", most, 0, 0);
        due("~a", half, 0, half - 1);
        due("!a", 0, 0, 1);
        due("!a", 1, 0, 0);
        due("!a", half, 0, 0);
        due("!a", most, 0, 0);
    }

    /** a / 0 = 2^W - 1, a % 0 = a. */
    private static void divisionByNothing() {
        due("a / b", 0, 0, most);
        due("a / b", 1, 0, most);
        due("a / b", most, 0, most);
        due("a / b", most, 1, most);
        due("a / b", 0, 1, 0);
        due("a / b", most, most, 1);
        due("a / b", most - 1, most, 0);
        due("a / b", half, half, 1);
        due("a / b", most, half, 1);
        due("a / b", half - 1, half, 0);
        due("a % b", 0, 0, 0);
        due("a % b", 1, 0, 1);
        due("a % b", most, 0, most);
        due("a % b", half, 0, half);
        due("a % b", most, 1, 0);
        due("a % b", 0, 1, 0);
        due("a % b", most, most, 0);
        due("a % b", most - 1, most, most - 1);
        due("a % b", most, half, half - 1);
    }

    /** a << b, a >> b: 0 if b is W or more. */
    private static void shifts() {
        due("a << b", most, 0, most);
        due("a >> b", most, 0, most);
        due("a << b", 1, width - 1, half);
        due("a << b", most, width - 1, half);
        due("a >> b", half, width - 1, 1);
        due("a >> b", most, width - 1, 1);
        due("a << b", most, width, 0);
        due("a >> b", most, width, 0);
        due("a << b", most, most, 0);
        due("a >> b", most, most, 0);
        if (width > 1) {
            due("a << b", most, half, 0);
            due("a << b", most, width + 1, 0);
            due("a >> b", most, width + 1, 0);
            due("a >> b", most, 1, half - 1);
        }
        if (width > 3) {
            // a power of two that is W or more, alone and with a small one
            due("a << b", most, 8, 0);
            due("a >> b", most, 9, 0);
            due("a >> b", most, half + 1, 0);
        }
    }

    /** Comparisons (without sign): 1 or 0. */
    private static void comparisons() {
        int[][] pairs = {{0, 0}, {0, 1}, {1, 0}, {most, most}, {most, 0}, {0, most}, {half, half - 1}, {half - 1, half},
            {half, half}, {most - 1, most}, {most, most - 1}};
        for (int[] p : pairs) {
            due("a == b", p[0], p[1], p[0] == p[1] ? 1 : 0);
            due("a != b", p[0], p[1], p[0] != p[1] ? 1 : 0);
            due("a < b", p[0], p[1], p[0] < p[1] ? 1 : 0);
            due("a <= b", p[0], p[1], p[0] <= p[1] ? 1 : 0);
            due("a > b", p[0], p[1], p[0] > p[1] ? 1 : 0);
            due("a >= b", p[0], p[1], p[0] >= p[1] ? 1 : 0);
        }
    }

    /** less(a, b): whether a is below b with sign (bit W - 1). */
    private static void belowWithSign() {
        due("less(a, b)", 0, 0, 0);
        due("less(a, b)", most, most, 0);
        due("less(a, b)", half, half, 0);
        due("less(a, b)", most, 0, 1);
        due("less(a, b)", 0, most, 0);
        due("less(a, b)", half, 0, 1);
        due("less(a, b)", 0, half, 0);
        if (width > 1) {
            due("less(a, b)", half, half - 1, 1);
            due("less(a, b)", half - 1, half, 0);
            due("less(a, b)", half, most, 1);
            due("less(a, b)", most, half, 0);
            due("less(a, b)", 0, half - 1, 1);
            due("less(a, b)", half - 1, 0, 0);
            due("less(a, b)", half, half + 1, 1);
            due("less(a, b)", most, 1, 1);
        }
    }

    /** && and ||: 1 or 0; a VALUE is true if it is not 0. */
    private static void trueIfNotNothing() {
        int[] values = {0, 1, half, most, most - 1};
        for (int a : values) {
            for (int b : values) {
                due("a && b", a, b, a != 0 && b != 0 ? 1 : 0);
                due("a || b", a, b, a != 0 || b != 0 ? 1 : 0);
            }
        }
        due("a & b", half, half, half);
        due("a & b", half, half - 1, 0);
        due("a | b", half, half - 1, most);
        due("a ^ b", most, most, 0);
        due("a ^ b", most, 0, most);
    }

    /** a ? b : c is b if a is true, else c. */
    private static void choices() {
        for (int a : new int[] {0, 1, half, most}) {
            due("a ? b : ~b", a, most, a != 0 ? most : 0);
            due("a ? ~b : b", a, most, a != 0 ? 0 : most);
        }
    }

    /** Beyond an ARRAY's ELEMENTS 0 is read. */
    private static void beyondAnArray() {
        for (int size = 1; size <= 16 && size < 1 << width; size++) {
            StringBuilder text = new StringBuilder("width " + width + "; var z; var i; var t[" + size + "]; ");
            for (int e = 0; e < size; e++) {
                text.append("t[" + e + "] = " + (most - e % 2) + "; ");
            }
            text.append("any i : " + width + "; z = t[i];");
            RunProver x = Tally.reading(text.toString());
            for (int i : new int[] {0, size - 1, size, Math.min(size + 1, most), most - 1, most}) {
                x.put(0, i);
                TALLY.due("width " + width + ": t[" + i + "] of " + size, i < size ? most - i % 2 : 0, x.value(0, 0));
                RunProver y = Tally.reading(text.toString().replace("any i : " + width, "i = " + i));
                TALLY.due("width " + width + ": t[" + i + "] of " + size + ", by number", i < size ? most - i % 2 : 0, y.value(0, 0));
            }
            TALLY.due("no check breaks", -1, x.prove());
        }
    }

    /** An ARRAY may have more ELEMENTS than an index can tell: they stay 0. */
    private static void beyondAnArrayOfMoreThanThereAreValues() {
        if (1 << width > 16) {
            return;
        }
        RunProver x = Tally.reading("width " + width + "; var z; var i; var t[16]; any i : " + width + "; t[i] = 1; z = t[" + most + "];");
        for (int i = 0; i <= most; i++) {
            x.put(0, i);
            TALLY.due("run", -1, x.run());
            TALLY.due("the last that an index can tell", i == most ? 1 : 0, x.value(0, 0));
            for (int e = 0; e < 16; e++) {
                TALLY.due("element " + e, e == i ? 1 : 0, x.value(2, e));
            }
        }
        TALLY.due("every index is there", 0, x.breaks(0));
        TALLY.due("the last one ends as 1", most == 15 ? 1 : 0, x.ends(2, 15, 1));
    }
}
