/** Terms, a RUN, CHECKS, UNROLLED and COSTS: where one more or one less changes the answer. */
public final class RunEdgesTest {
    private static final Tally TALLY = new Tally("RunEdgesTest");

    public static void main(String[] args) {
        allIsNothingFirst();
        anInputOfFewBits();
        assume();
        assertion();
        theElementIsThere();
        aStatementThatBreaksChangesNothing();
        roundsOfAWhile();
        aLimitOfNothing();
        aLimitOfFifty();
        roundsWithinRounds();
        theRunIsOver();
        nestedFiftyDeep();
        functionsWithinFunctions();
        checksAreNumbered();
        inputsOfTheUnrolledText();
        inputsThatAreNotComeTo();
        inputsOfRounds();
        lessInputs();
        costsOfExpressions();
        costsOfStatements();
        TALLY.close();
    }

    private static RunProver with(String text, int... inputs) {
        RunProver x = Tally.reading(text);
        TALLY.due("fault of " + text, 0, x.fault(0));
        for (int i = 0; i < inputs.length; i++) {
            x.put(i, inputs[i]);
        }
        return x;
    }

    private static void runs(String sentence, int due, String text, int... inputs) {
        TALLY.due(sentence + ": " + text, due, with(text, inputs).run());
    }

    /** All variables and ELEMENTS being 0 first. */
    private static void allIsNothingFirst() {
        RunProver x = with("width 8; var a; var t[16]; var b; assert a == 0 && b == 0 && t[0] == 0 && t[15] == 0;");
        TALLY.due("run", -1, x.run());
        TALLY.due("a", 0, x.value(0, 0));
        TALLY.due("b", 0, x.value(2, 0));
        for (int e = 0; e < 16; e++) {
            TALLY.due("element " + e, 0, x.value(1, e));
        }
        x = with("width 8; var a; a = a + 1;");
        TALLY.due("one run", 1, x.value(0, 0));
        x.run();
        TALLY.due("and the next begins anew", 1, x.value(0, 0));
    }

    /** any NAME : k gives it the next INPUT of k bits. */
    private static void anInputOfFewBits() {
        for (int k = 1; k <= 8; k++) {
            RunProver x = with("width 8; var a; a = 255; any a : " + k + ";");
            TALLY.due("nothing of what was before stays", 0, x.value(0, 0));
            int most = (1 << k) - 1;
            TALLY.due("the greatest", 0, x.put(0, most));
            TALLY.thrown("one more", 2, () -> x.put(0, most + 1));
            TALLY.due("all its bits", most, x.value(0, 0));
        }
        RunProver x = with("width 4; var a; var b; any a : 4; any b : 4; any a : 4;", 1, 2, 3);
        TALLY.due("the next one", 2, x.value(1, 0));
        TALLY.due("the last one", 3, x.value(0, 0));
    }

    /** assume: if it is not true the RUN is over, STOPPED. */
    private static void assume() {
        runs("0 is not true", -2, "width 3; assume 0;");
        runs("1 is true", -1, "width 3; assume 1;");
        runs("the highest bit alone is true", -1, "width 3; assume 4;");
        runs("2^W is 0", -2, "width 3; assume 7 + 1;");
        runs("the run is over: no check behind it", -2, "width 3; assume 0; assert 0;");
        runs("the run is over: in a round", -2, "width 3; var x; while 1 limit 2 { assume x == 0; x = 1; } assert 0;");
        RunProver x = with("width 3; var a; a = 1; assume 0; a = 2;");
        TALLY.due("nothing behind it is done", 1, x.value(0, 0));
        TALLY.due("it does not come to the end", 0, x.ends(0, 0, 1));
        TALLY.due("nor with another value", 0, x.ends(0, 0, 2));
        TALLY.due("no check breaks", -1, x.prove());
    }

    /** assert: it is true. */
    private static void assertion() {
        runs("0 is not true", 0, "width 3; assert 0;");
        runs("1 is true", -1, "width 3; assert 1;");
        runs("the highest bit alone is true", -1, "width 3; assert 4;");
        runs("2^W is 0", 0, "width 3; assert 7 + 1;");
        runs("the second", 1, "width 3; assert 1; assert 0;");
        runs("the first of two", 0, "width 3; assert 0; assert 0;");
    }

    /** NAME [ ] = ..: the ELEMENT is there. */
    private static void theElementIsThere() {
        for (int size = 1; size <= 16; size++) {
            String text = "width 5; var t[" + size + "]; var i; any i : 5; t[i] = 3;";
            RunProver x = with(text, size - 1);
            TALLY.due("the last of " + size, -1, x.run());
            TALLY.due("it is set", 3, x.value(0, size - 1));
            TALLY.due("the one before it is not", 0, size > 1 ? x.value(0, size - 2) : 0);
            x.put(0, size);
            TALLY.due("one more than " + size, 0, x.run());
            TALLY.due("the greatest index", 0, with(text, 31).run());
            TALLY.due("breaks", 1, x.breaks(0));
            TALLY.due("the least that is not there", size, x.input(0));
            TALLY.due("reaches", 1, x.reaches(0));
            TALLY.due("even where it is there", 0, x.input(0));
        }
        for (int width = 1; width <= 4; width++) {
            int all = 1 << width;
            String text = "width " + width + "; var t[" + all + "]; var u[" + (all - 1) + "]; var i; any i : " + width + "; t[i] = 1; u[i] = 1;";
            RunProver x = with(text, all - 1);
            TALLY.due("as many elements as there are values", 0, x.breaks(0));
            TALLY.due("one less", 1, x.breaks(1));
            TALLY.due("by", all - 1, x.input(0));
        }
    }

    /** A STATEMENT whose CHECK BREAKS changes nothing. */
    private static void aStatementThatBreaksChangesNothing() {
        RunProver x = with("width 3; var t[2]; var i; var n; any i : 3; t[0] = 1; t[1] = 2; t[i] = 7; n = 1;", 2);
        TALLY.due("run", 2, x.run());
        TALLY.due("element 0", 1, x.value(0, 0));
        TALLY.due("element 1", 2, x.value(0, 1));
        TALLY.due("nothing behind it is done", 0, x.value(2, 0));
        x.put(0, 1);
        TALLY.due("run", -1, x.run());
        TALLY.due("element 1", 7, x.value(0, 1));
        TALLY.due("what is behind it is done", 1, x.value(2, 0));
        TALLY.due("its index is worked out before it is set", 2, with("width 3; var t[4]; t[t[0]] = 2;").value(0, 0));
    }

    /** while: its EXPRESSION is not true once more after limit rounds. */
    private static void roundsOfAWhile() {
        for (int limit = 0; limit <= 6; limit++) {
            String text = "width 3; var n; var i; any n : 3; while i < n limit " + limit + " { i = i + 1; }";
            for (int n = 0; n < 8; n++) {
                RunProver x = with(text, n);
                TALLY.due(n + " rounds of " + limit, n <= limit ? -1 : 0, x.run());
                TALLY.due("rounds that are done", Math.min(n, limit), x.value(1, 0));
            }
            RunProver x = with(text);
            TALLY.due("breaks", 1, x.breaks(0));
            TALLY.due("one round too many", limit + 1, x.input(0));
            TALLY.due("reaches", 1, x.reaches(0));
            TALLY.due("behind the last round", limit, x.input(0));
        }
        RunProver x = with("width 3; var n; var i; any n : 3; while i < n limit 7 { i = i + 1; }", 7);
        TALLY.due("never too many", 0, x.breaks(0));
        TALLY.due("the input stays", 7, x.input(0));
        TALLY.due("behind the last round", 1, x.reaches(0));
        TALLY.due("by", 7, x.input(0));
    }

    /** UNROLLED: a limit of 0. */
    private static void aLimitOfNothing() {
        runs("not true at once", -1, "width 3; while 0 limit 0 { assert 0; }");
        runs("true at once", 0, "width 3; while 1 limit 0 { assert 0; }");
        RunProver x = with("width 3; var a; while a limit 0 { any a : 3; a = 5; assert 0; }");
        TALLY.due("no inputs", 0, x.count(1));
        TALLY.due("but checks", 2, x.count(0));
        TALLY.due("it is come to", 1, x.reaches(0));
        TALLY.due("what is within it is not", 0, x.reaches(1));
        TALLY.due("nor does it break", 0, x.breaks(1));
        TALLY.due("run", -1, x.run());
        TALLY.due("value", 0, x.value(0, 0));
        TALLY.due("doubts", 0, x.doubts());
    }

    private static void aLimitOfFifty() {
        String text = "width 8; var n; var i; any n : 8; while i < n limit 50 { i = i + 1; }";
        TALLY.due("50 rounds", -1, with(text, 50).run());
        TALLY.due("51 rounds", 0, with(text, 51).run());
        TALLY.due("50 are done", 50, with(text, 51).value(1, 0));
        RunProver x = with(text);
        TALLY.due("breaks", 1, x.breaks(0));
        TALLY.due("by", 51, x.input(0));
        TALLY.due("reaches", 1, x.reaches(0));
        TALLY.due("by", 50, x.input(0));
    }

    private static void roundsWithinRounds() {
        String text = "width 4; var n; var i; var j; var s; any n : 4; while i < 3 limit 3 { j = 0; while j < n limit 4 { j = j + 1; s = s + 1; } i = i + 1; n = n + 1; }";
        TALLY.due("2, 3, 4 rounds", 9, with(text, 2).value(3, 0));
        TALLY.due("run", -1, with(text, 2).run());
        TALLY.due("3, 4, 5 rounds", 1, with(text, 3).run());
        TALLY.due("what is done before", 11, with(text, 3).value(3, 0));
        RunProver x = with(text);
        TALLY.due("breaks", 1, x.breaks(1));
        TALLY.due("in the last round", 3, x.input(0));
        TALLY.due("reaches", 1, x.reaches(1));
        TALLY.due("in the last round", 2, x.input(0));
        TALLY.due("the outer one is come to", 1, x.reaches(0));
        TALLY.due("by", 0, x.input(0));
        TALLY.due("the outer one never breaks", 0, x.breaks(0));
    }

    /** A CHECK that doesn't hold BREAKS, and the RUN is over. */
    private static void theRunIsOver() {
        RunProver x = with("width 3; var a; a = 1; assert 0; a = 2; assert 0; assume 0;");
        TALLY.due("the first one", 0, x.run());
        TALLY.due("nothing behind it is done", 1, x.value(0, 0));
        TALLY.due("the second never breaks", 0, x.breaks(1));
        TALLY.due("nor is it come to", 0, x.reaches(1));
        TALLY.due("the end neither", 0, x.ends(0, 0, 1));
        x = with("width 3; var a; while 1 limit 3 { a = a + 1; assert a != 2; } a = 7;");
        TALLY.due("in the second round", 1, x.run());
        TALLY.due("no third", 2, x.value(0, 0));
        x = with("width 3; var a; while 1 limit 3 { a = a + 1; } a = 7;");
        TALLY.due("behind the last round", 0, x.run());
        TALLY.due("nothing behind it is done", 3, x.value(0, 0));
    }

    /** What may be nested is run, too. */
    private static void nestedFiftyDeep() {
        String head = "width 3; var a; var b; any a : 3; ";
        RunProver x = with(head + Tally.times("if a { ", 50) + "b = a; assert a != 5;" + Tally.times("}", 50), 6);
        TALLY.due("blocks", 6, x.value(1, 0));
        TALLY.due("breaks", 1, x.breaks(0));
        TALLY.due("by", 5, x.input(0));
        x = with(head + Tally.times("if a { ", 51) + Tally.times("}", 51) + " b = 1;", 6);
        TALLY.due("a block without statements", 1, x.value(1, 0));
        x = with(head + Tally.times("if a == 4 { b = 1; } else ", 50) + "{ b = a; }", 6);
        TALLY.due("else if", 6, x.value(1, 0));
        x.put(0, 4);
        TALLY.due("the first of them", 1, x.value(1, 0));
        x = with(head + Tally.times("if a { ", 25) + Tally.times("while b < 5 limit 1 { ", 25) + "b = b + a;" + Tally.times("}", 50), 6);
        TALLY.due("rounds", 6, x.value(1, 0));
        TALLY.due("run", -1, x.run());
        x.put(0, 3);
        TALLY.due("one round too few, of the innermost", 24, x.run());
        x = with(head + "b = " + Tally.times("(", 50) + "a" + Tally.times(" + 1)", 50) + ";", 6);
        TALLY.due("brackets", 0, x.value(1, 0));
        x = with(head + "b = " + Tally.times("a - (", 50) + "a" + Tally.times(")", 50) + ";", 6);
        TALLY.due("brackets to the right", 6, x.value(1, 0));
        x = with(head + "b = " + Tally.times("~-", 25) + "a;", 6);
        TALLY.due("signs before", 6 - 25 & 7, x.value(1, 0));
        x = with(head + "b = " + Tally.times("a == 7 ? 1 : ", 50) + "a;", 6);
        TALLY.due("choices", 6, x.value(1, 0));
    }

    /** Each call has PARAMETERS of its own, and those of the one around it are there again behind it. */
    private static void functionsWithinFunctions() {
        String head = "width 8; var x; fun f(a, b) = a * 10 + b; fun g(b, a) = f(b, a) * 2 + a - b; fun h(a) = g(f(a, 1), a) - g(1, a) + a; ";
        TALLY.due("f", 12, with(head + "x = f(1, 2);").value(0, 0));
        TALLY.due("g", 25, with(head + "x = g(1, 2);").value(0, 0));
        TALLY.due("within itself", 123, with(head + "x = f(f(1, 2), 3);").value(0, 0));
        TALLY.due("on both sides", 42, with(head + "x = f(f(0, 2), f(2, 2));").value(0, 0));
        int g1 = (21 * 10 + 2) * 2 + 2 - 21;
        int g2 = (1 * 10 + 2) * 2 + 2 - 1;
        TALLY.due("h", g1 - g2 + 2 & 255, with(head + "x = h(2);").value(0, 0));
        TALLY.due("beside others", g1 - g2 + 2 + 12 - 25 & 255, with(head + "x = h(2) + f(1, 2) - g(1, 2);").value(0, 0));
        TALLY.due("eight", 87, with("width 8; var x; fun f(a, b, c, d, e, g, h, i) = i * 10 + h; x = f(1, 2, 3, 4, 5, 6, 7, 8);").value(0, 0));
        StringBuilder chain = new StringBuilder("width 8; var x; fun f0(a, b) = a - b; ");
        for (int k = 1; k < 66; k++) {
            chain.append("fun f" + k + "(a, b) = f" + (k - 1) + "(a + 1, b) + b; ");
        }
        TALLY.due("66, one in the other", 10 + 65 - 3 + 65 * 3 & 255, with(chain + "x = f65(10, 3);").value(0, 0));
    }

    /** CHECKS are numbered from 0 as assert, while and the NAMES of ARRAYS in such STATEMENTS come in the TEXT. */
    private static void checksAreNumbered() {
        String text = "width 3; var t[2]; var x; x = t[0]; while t[0] limit 0 { t[t[0]] = t[1]; assert t[0]; } if t[1] { t[1] = 0; } else { assert 1; } assert t[0];";
        RunProver x = with(text);
        int[] kinds = {3, 2, 1, 2, 1, 1};
        int[] places = {text.indexOf("while"), text.indexOf("t[t[0]]"), text.indexOf("assert t[0]; }"), text.indexOf("t[1] = 0"),
            text.indexOf("assert 1"), text.lastIndexOf("assert")};
        TALLY.due("checks", kinds.length, x.count(0));
        for (int c = 0; c < kinds.length; c++) {
            TALLY.due("kind " + c, kinds[c], x.check(c, 0));
            TALLY.due("place " + c, places[c], x.check(c, 1));
        }
        TALLY.due("the last one breaks", 5, x.run());
        TALLY.due("as many as copies are not counted", 2, Tally.reading("width 3; while 0 limit 9 { assert 1; }").count(0));
        TALLY.due("none", 0, Tally.reading("width 3; var t[2]; var x; x = t[0]; assume t[1]; if t[0] { }").count(0));
    }

    /** INPUTS are those of all any of the UNROLLED TEXT, in this order. */
    private static void inputsOfTheUnrolledText() {
        RunProver x = with("width 4; var a; any a : 1; while a limit 2 { any a : 2; if a { any a : 1; } else { any a : 2; } } ");
        TALLY.due("inputs", 7, x.count(1));
        TALLY.due("bits", 11, x.count(2));
        int[] bits = {1, 2, 1, 2, 2, 1, 2};
        for (int i = 0; i < bits.length; i++) {
            int input = i;
            int beyond = 1 << bits[i];
            TALLY.due("the greatest of input " + i, 0, x.put(i, beyond - 1));
            TALLY.thrown("one more of input " + i, 2, () -> x.put(input, beyond));
        }
        TALLY.thrown("no eighth", 1, () -> x.input(7));
        TALLY.due("none", 0, Tally.reading("width 4; var a;").count(1));
        TALLY.due("twelve", 12, Tally.reading("width 4; var a; while 0 limit 12 { any a : 1; }").count(1));
    }

    /** Whether they are come to or not: a RUN takes those that belong to the any that it comes to. */
    private static void inputsThatAreNotComeTo() {
        String text = "width 4; var a; var b; any a : 1; if a { any b : 3; } else { any b : 4; } any a : 4;";
        RunProver x = with(text, 1, 5, 9, 11);
        TALLY.due("the first block's", 5, x.value(1, 0));
        TALLY.due("the one behind both", 11, x.value(0, 0));
        x.put(0, 0);
        TALLY.due("the second block's", 9, x.value(1, 0));
        TALLY.due("the one behind both", 11, x.value(0, 0));
        x = with("width 4; var a; var b; any a : 1; assert a == 1; any b : 4; assert b != 2;", 1, 15);
        TALLY.due("breaks", 1, x.breaks(0));
        TALLY.due("the first", 0, x.input(0));
        TALLY.due("one that is not come to is 0 in the least", 0, x.input(1));
        x.put(1, 2);
        TALLY.due("prove", 0, x.prove());
        TALLY.due("so there, too", 0, x.input(1));
        x = with("width 4; var a; assume 0; any a : 4; assert 0;", 6);
        TALLY.due("inputs", 1, x.count(1));
        TALLY.due("not taken", 0, x.value(0, 0));
        TALLY.due("none breaks", -1, x.prove());
        TALLY.due("it stays", 6, x.input(0));
    }

    /** In the round in which it comes to it. */
    private static void inputsOfRounds() {
        String text = "width 4; var a; var s; var i; any i : 2; while i limit 3 { i = i - 1; any a : 2; s = s * 4 + a; if a == 3 { any a : 1; } } any i : 1;";
        RunProver x = with(text);
        TALLY.due("inputs", 8, x.count(1));
        int[] inputs = {2, 1, 0, 2, 0, 3, 0, 1};
        for (int i = 0; i < inputs.length; i++) {
            x.put(i, inputs[i]);
        }
        TALLY.due("two rounds take the first two", 6, x.value(1, 0));
        TALLY.due("the one behind all rounds", 1, x.value(2, 0));
        x.put(0, 3);
        TALLY.due("three rounds", 11, x.value(1, 0));
        x.put(0, 1);
        TALLY.due("one round", 1, x.value(1, 0));
        x.put(0, 0);
        TALLY.due("no round", 0, x.value(1, 0));
        TALLY.due("the one behind all rounds", 1, x.value(2, 0));
    }

    /** INPUTS are LESS than others if the first that differs is less. */
    private static void lessInputs() {
        RunProver x = with("width 3; var a; var b; any a : 3; any b : 3; assert !(a == 1 && b == 7 || a == 2 && b == 0 || a == 7);", 7, 7);
        TALLY.due("prove", 0, x.prove());
        TALLY.due("the first is less", 1, x.input(0));
        TALLY.due("though the second is more", 7, x.input(1));
        x = with("width 3; var a; var b; any a : 3; any b : 3; assert a + b != 7;");
        TALLY.due("prove", 0, x.prove());
        TALLY.due("the first is the least", 0, x.input(0));
        TALLY.due("the second what it must be", 7, x.input(1));
        x = with("width 3; var a; var b; any a : 1; any b : 3; assert a == 0 || b < 6;");
        TALLY.due("prove", 0, x.prove());
        TALLY.due("the least second one", 6, x.input(1));
        x = with("width 3; var a; any a : 3; assert a == 7; assert a != 7;", 7);
        TALLY.due("prove: the least, not the first check", 0, x.prove());
        TALLY.due("by all 0", 0, x.input(0));
        TALLY.due("breaks the second", 1, x.breaks(1));
        TALLY.due("by the greatest", 7, x.input(0));
    }

    private static int cost(int w, String statements) {
        RunProver x = Tally.reading("width " + w + "; var x; var s[1]; var t[16]; fun f(p) = p; fun g(p, q) = f(p) & q; " + statements);
        TALLY.due("fault of " + statements, 0, x.fault(0));
        return x.count(4);
    }

    /** COSTS in an EXPRESSION, above that of x = x; */
    private static void costsOfExpressions() {
        for (int w = 1; w <= 8; w++) {
            int plain = 8 + 4 * w;
            TALLY.due("x = x", plain, cost(w, "x = x;"));
            String[] nothing = {"1", "(x)", "((1))", "~x", "~~(x)"};
            for (String e : nothing) {
                TALLY.due(e, plain, cost(w, "x = " + e + ";"));
            }
            int[] costs = {3 * w, 3 * w, 3 * w, 3 * w, 3 * w, 3 * w, 4 * w, 4 * w, 12 * w, 12 * w, 12 * w, 12 * w, 12 * w, 12 * w,
                12 * w, 12 * w, 16 * w, 16 * w, 16 * w * w, 24 * w * w, 24 * w * w, 5 * w, 9 * w, 144 * w, 1, 2, 2 + 3 * w};
            String[] signs = {"x & x", "x | x", "x ^ x", "!x", "x && x", "x || x", "x == x", "x != x", "x < x", "x <= x", "x > x",
                "x >= x", "less(x, x)", "x + x", "x - x", "-x", "x << x", "x >> x", "x * x", "x / x", "x % x", "x ? x : x",
                "s[x]", "t[x]", "f(x)", "f(f(x))", "g(x, x)"};
            for (int k = 0; k < signs.length; k++) {
                TALLY.due(signs[k] + " by " + w, plain + costs[k], cost(w, "x = " + signs[k] + ";"));
            }
            TALLY.due("all within", plain + 12 * w + 9 * w + 5 * w + 3 * w + 1 + 4 * w, cost(w, "x = -s[x ? !x : f(x == 1)];"));
        }
    }

    /** COSTS of STATEMENTS, of all UNROLLED; and 8 for each STATEMENT. */
    private static void costsOfStatements() {
        for (int w = 1; w <= 8; w++) {
            int plain = 8 + 4 * w;
            int not = 3 * w;
            TALLY.due("nothing", 0, cost(w, ""));
            TALLY.due("=", plain, cost(w, "x = 1;"));
            TALLY.due("array =", 8 + 9 * w, cost(w, "s[0] = 1;"));
            TALLY.due("array of 16 =", 8 + 144 * w + 2 * not, cost(w, "t[!x] = !x;"));
            TALLY.due("any", plain, cost(w, "any x : 1;"));
            TALLY.due("any of W", plain, cost(w, "any x : " + w + ";"));
            TALLY.due("assume", 8 + 3 * w + not, cost(w, "assume !x;"));
            TALLY.due("assert", 8 + 3 * w + not, cost(w, "assert !x;"));
            TALLY.due("if", 8 + 3 * w + not, cost(w, "if !x { }"));
            TALLY.due("if with a block", 8 + 3 * w + not + plain, cost(w, "if !x { x = x; }"));
            TALLY.due("if with both", 8 + 3 * w + not + 3 * plain, cost(w, "if !x { x = x; } else { x = x; x = x; }"));
            TALLY.due("else if", 2 * (8 + 3 * w + not) + 2 * plain, cost(w, "if !x { } else if !x { x = x; } else { x = x; }"));
            for (int limit : new int[] {0, 1, 2, 20}) {
                TALLY.due("while", 8 + (limit + 1) * (3 * w + not) + limit * plain, cost(w, "while !x limit " + limit + " { x = x; }"));
                TALLY.due("while in rounds", 8 + 3 * 3 * w + 2 * (8 + (limit + 1) * 3 * w), cost(w, "while x limit 2 { while x limit " + limit + " { } }"));
            }
        }
    }
}
