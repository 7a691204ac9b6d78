/** Terms, the TEXT's grammar: its ranges, and which NAMES may stand where. */
public final class GrammarEdgesTest {
    private static final Tally TALLY = new Tally("GrammarEdgesTest");
    private static final Edge EDGE = new Edge(TALLY);
    private static final String[] KEYWORDS = {"width", "var", "fun", "any", "assume", "assert", "if", "else",
        "while", "limit", "less"};
    private static final String HEAD = "width 3; var x; var y; var t[3]; fun f(p) = p; fun g(p, q) = p + q; ";

    public static void main(String[] args) {
        width();
        noneOrMore();
        elements();
        parameters();
        bitsOfAnAny();
        limit();
        numbersBelow();
        keywordsAreNoNames();
        eachIsDeclaredOnce();
        parametersAreDeclaredInTheirFunction();
        whatAFunctionIsOf();
        kindsThatMustStandThere();
        arraysAndFunctionsWithoutTheirSign();
        numbersOfExpressions();
        elseAndElseIf();
        howTightlySignsBind();
        TALLY.close();
    }

    /** width NUMBER ; (1 .. 8: W). */
    private static void width() {
        EDGE.step("the least width", "width 1;", 3, "width \u00a70;");
        EDGE.step("the greatest width", "width 8;", 3, "width \u00a79;");
        EDGE.bad("far beyond", 3, "width \u00a7264;");
        EDGE.bad("a sign before it", 1, "width \u00a7-1;");
        EDGE.bad("once alone", 1, "width 3; \u00a7width 3;");
        EDGE.bad("it is first", 1, "\u00a7var x; width 3;");
        EDGE.bad("no expression", 1, "width 3 \u00a7+ 1;");
        for (int w = 1; w <= 8; w++) {
            TALLY.due("W", w, Tally.reading("width " + w + ";").count(6));
        }
    }

    /** DECLARATIONS, then STATEMENTS, none or more of each (so in a BLOCK). */
    private static void noneOrMore() {
        EDGE.good("none of either", "width 3;");
        EDGE.good("one declaration", "width 3; var x;");
        EDGE.good("no declaration", "width 3; assert 1;");
        EDGE.good("more of each", "width 3; var x; fun f(a) = a; var y; fun g(a) = a; x = 1; y = 2;");
        EDGE.bad("a declaration behind a statement", 1, "width 3; var x; x = 1; \u00a7var y;");
        EDGE.bad("a function behind a statement", 1, "width 3; assert 1; \u00a7fun f(a) = a;");
        EDGE.bad("a declaration in a block", 1, "width 3; if 1 { \u00a7var x; }");
        EDGE.good("blocks without statements", "width 3; if 1 { } else { } while 0 limit 1 { }");
        EDGE.good("blocks with more", "width 3; if 1 { assume 1; assert 1; } else { assert 1; assume 1; } while 0 limit 1 { assert 1; assert 1; }");
        EDGE.bad("a statement of a ; alone", 1, "width 3; if 1 { \u00a7; }");
        EDGE.bad("a block alone", 1, "width 3; \u00a7{ }");
        EDGE.bad("a } too many", 1, "width 3; if 1 { } \u00a7}");
        EDGE.bad("a } too few", 1, "width 3; if 1 { if 1 { }\u00a7");
        EDGE.bad("a ; behind a block", 1, "width 3; if 1 { }\u00a7;");
    }

    /** An ARRAY, 1 .. 16 ELEMENTS. */
    private static void elements() {
        EDGE.step("the shortest array", "width 1; var t[1];", 3, "width 1; var t[\u00a70];");
        EDGE.step("the longest array", "width 1; var t[16];", 3, "width 1; var t[\u00a717];");
        EDGE.bad("an expression", 1, "width 3; var t[1 \u00a7+ 1];");
        EDGE.bad("no number", 1, "width 3; var t[\u00a7];");
        RunProver x = Tally.reading("width 1; var a[1]; var b[16];");
        TALLY.due("element 0 of one", 0, x.value(0, 0));
        TALLY.thrown("element 1 of one", 1, () -> x.value(0, 1));
        TALLY.due("element 15 of 16", 0, x.value(1, 15));
        TALLY.thrown("element 16 of 16", 1, () -> x.value(1, 16));
    }

    /** PARAMETERS, one to eight NAMES with , between. */
    private static void parameters() {
        EDGE.step("one", "width 3; fun f(a) = a;", 1, "width 3; fun f(\u00a7) = 1;");
        EDGE.step("eight", "width 3; fun f(a, b, c, d, e, g, h, i) = i;", 4, "width 3; fun f(a, b, c, d, e, g, h, i, \u00a7j) = i;");
        EDGE.bad("a ninth that is declared already", 2, "width 3; fun f(a, b, c, d, e, g, h, i, \u00a7b) = i;");
        EDGE.bad("a ninth that is the function", 2, "width 3; fun f(a, b, c, d, e, g, h, i, \u00a7f) = i;");
        EDGE.bad("a ninth that is a variable", 2, "width 3; var v; fun f(a, b, c, d, e, g, h, i, \u00a7v) = i;");
        EDGE.bad("a ninth that is no name", 1, "width 3; fun f(a, b, c, d, e, g, h, i, \u00a7less) = i;");
        EDGE.bad("a , and nothing", 1, "width 3; fun f(a, \u00a7) = a;");
        EDGE.bad("a , and nothing behind eight", 1, "width 3; fun f(a, b, c, d, e, g, h, i, \u00a7) = i;");
        EDGE.bad("no ,", 1, "width 3; fun f(a \u00a7b) = a;");
        EDGE.bad("a , first", 1, "width 3; fun f(\u00a7, a) = a;");
        EDGE.bad("a number", 1, "width 3; fun f(\u00a71) = 1;");
        RunProver x = Tally.reading("width 3; var x; fun f(a, b, c, d, e, g, h, i) = i - a; x = f(1, 0, 0, 0, 0, 0, 0, 7);");
        TALLY.due("the first and the eighth", 6, x.value(0, 0));
    }

    /** any NAME : NUMBER ; (1 .. W). */
    private static void bitsOfAnAny() {
        for (int w = 1; w <= 8; w++) {
            String head = "width " + w + "; var x; any x : ";
            EDGE.step("W bits", head + w + ";", 3, head + "\u00a7" + (w + 1) + ";");
            EDGE.step("one bit", head + "1;", 3, head + "\u00a70;");
        }
        EDGE.bad("no number", 1, HEAD + "any x : \u00a7x;");
        EDGE.bad("no :", 1, HEAD + "any x \u00a71;");
        EDGE.bad("an expression", 1, HEAD + "any x : 1 \u00a7+ 1;");
        EDGE.bad("a limit of 0 around it", 3, HEAD + "while 0 limit 0 { any x : \u00a74; }");
    }

    /** while EXPRESSION limit NUMBER (0 .. 50) BLOCK. */
    private static void limit() {
        EDGE.good("the least limit", HEAD + "while x limit 0 { }");
        EDGE.step("the greatest limit", HEAD + "while x limit 50 { }", 3, HEAD + "while x limit \u00a751 { }");
        EDGE.bad("a sign before it", 1, HEAD + "while x limit \u00a7-1 { }");
        EDGE.bad("no limit", 1, HEAD + "while x \u00a7{ }");
        EDGE.bad("limit without a number", 1, HEAD + "while x limit \u00a7{ }");
        EDGE.bad("limit without an expression", 1, HEAD + "while \u00a7limit 1 { }");
        EDGE.good("a limit need not be below 2^W", "width 1; while 0 limit 50 { }");
    }

    /** A NUMBER (its value must be below 2^W). */
    private static void numbersBelow() {
        for (int w = 1; w <= 8; w++) {
            String head = "width " + w + "; var x; var t[16]; ";
            int beyond = 1 << w;
            EDGE.step("2^W", head + "x = " + (beyond - 1) + ";", 3, head + "x = \u00a7" + beyond + ";");
            EDGE.step("2^W in a function", "width " + w + "; fun f(a) = " + (beyond - 1) + ";", 3,
                "width " + w + "; fun f(a) = \u00a7" + beyond + ";");
            EDGE.step("2^W as an index", head + "t[" + (beyond - 1) + "] = t[" + (beyond - 1) + "];", 3,
                head + "t[\u00a7" + beyond + "] = 1;");
            EDGE.bad("2^W behind a sign", 3, head + "x = -\u00a7" + beyond + ";");
        }
        EDGE.bad("in a block that is never unrolled", 3, "width 3; while 0 limit 0 { assert \u00a78; }");
        EDGE.bad("in what is never come to", 3, "width 3; var x; x = 0 && \u00a78;");
    }

    /** NAMES: WORDS that are none of width var fun any assume assert if else while limit less. */
    private static void keywordsAreNoNames() {
        for (String keyword : KEYWORDS) {
            EDGE.bad("a keyword to declare", 1, "width 3; var \u00a7" + keyword + ";");
            EDGE.bad("a keyword as a function", 1, "width 3; fun \u00a7" + keyword + "(a) = a;");
            EDGE.bad("a keyword as a parameter", 1, "width 3; fun f(\u00a7" + keyword + ") = 1;");
            EDGE.bad("a keyword as an input", 1, "width 3; any \u00a7" + keyword + " : 1;");
            EDGE.good("a keyword and a sign more", "width 3; var " + keyword + "_; " + keyword + "_ = 1;");
            String shorter = keyword.substring(0, keyword.length() - 1);
            EDGE.good("a keyword and a letter less", "width 3; var " + shorter + "; " + shorter + " = 1;");
            String great = keyword.substring(0, 1).toUpperCase(java.util.Locale.ROOT) + keyword.substring(1);
            EDGE.good("a keyword with a great letter", "width 3; var " + great + "; " + great + " = 1;");
        }
        for (String keyword : KEYWORDS) {
            if (!keyword.equals("less")) {
                EDGE.bad("a keyword as an operand", 1, HEAD + "x = \u00a7" + keyword + ";");
            }
        }
    }

    /** Each is declared once. */
    private static void eachIsDeclaredOnce() {
        String[] firsts = {"var n; ", "var n[2]; ", "fun n(a) = a; "};
        for (String first : firsts) {
            EDGE.good("once", "width 3; " + first);
            EDGE.bad("a variable again", 2, "width 3; " + first + "var \u00a7n;");
            EDGE.bad("an array again", 2, "width 3; " + first + "var \u00a7n[2];");
            EDGE.bad("a function again", 2, "width 3; " + first + "fun \u00a7n(a) = a;");
            EDGE.bad("a parameter again", 2, "width 3; " + first + "fun m(a, \u00a7n) = a;");
        }
        EDGE.bad("it comes before what is behind it", 2, "width 3; var n; var \u00a7n[0];");
    }

    /** PARAMETERS: once in a FUNCTION, none that is declared before; behind it they are not declared any more. */
    private static void parametersAreDeclaredInTheirFunction() {
        EDGE.step("once in a function", "width 3; fun f(a, b) = a;", 2, "width 3; fun f(a, \u00a7a) = a;");
        EDGE.bad("its own name", 2, "width 3; fun f(\u00a7f) = 1;");
        EDGE.bad("its own name, second", 2, "width 3; fun f(a, \u00a7f) = 1;");
        EDGE.bad("a function before", 2, "width 3; fun f(a) = a; fun g(\u00a7f) = 1;");
        EDGE.bad("a variable before", 2, "width 3; var x; fun g(\u00a7x) = 1;");
        EDGE.bad("an array before", 2, "width 3; var x[1]; fun g(\u00a7x) = 1;");
        EDGE.good("of another function", "width 3; fun f(a) = a; fun g(a) = f(a);");
        EDGE.good("declared as a variable behind it", "width 3; fun f(a) = a; var a; a = f(a);");
        EDGE.good("declared as an array behind it", "width 3; fun f(a) = a; var a[2]; a[0] = f(a[1]);");
        EDGE.good("declared as a function behind it", "width 3; fun f(a) = a; fun a(b) = f(b);");
        EDGE.bad("in a statement", 2, "width 3; fun f(a) = a; assert \u00a7a;");
        EDGE.bad("in another function", 2, "width 3; fun f(a) = a; fun g(b) = \u00a7a;");
        EDGE.bad("set", 2, "width 3; fun f(a) = a; \u00a7a = 1;");
        EDGE.bad("as an input", 2, "width 3; fun f(a) = a; any \u00a7a : 1;");
        EDGE.bad("an array that is a parameter of a function before", 2, "width 3; fun f(a) = a; var a; fun g(\u00a7a) = 1;");
    }

    /** Of its PARAMETERS, NUMBERS and FUNCTIONS before it alone. */
    private static void whatAFunctionIsOf() {
        EDGE.good("parameters, numbers, functions before it", "width 3; fun f(a) = a + 7; fun g(a, b) = less(f(a), f(b)) ? 1 : -b;");
        EDGE.good("none of its parameters", "width 3; fun f(a) = 1;");
        EDGE.bad("a variable", 2, "width 3; var x; fun f(a) = a + \u00a7x;");
        EDGE.bad("an array", 2, "width 3; var x[2]; fun f(a) = \u00a7x[a];");
        EDGE.bad("an array without [", 2, "width 3; var x[2]; fun f(a) = \u00a7x;");
        EDGE.bad("itself", 2, "width 3; fun f(a) = a + \u00a7f(a);");
        EDGE.bad("itself without (", 2, "width 3; fun f(a) = a + \u00a7f;");
        EDGE.bad("a function behind it", 2, "width 3; fun f(a) = \u00a7g(a); fun g(a) = a;");
        EDGE.bad("what is not declared", 2, "width 3; fun f(a) = \u00a7b;");
        EDGE.bad("a parameter with [", 1, "width 3; fun f(a) = a\u00a7[0];");
        EDGE.bad("a parameter with (", 1, "width 3; fun f(a) = a\u00a7(0);");
    }

    /** 2: a NAME that is not declared, or is not of the kind that must stand there. */
    private static void kindsThatMustStandThere() {
        EDGE.bad("set what is not declared", 2, HEAD + "\u00a7z = 1;");
        EDGE.bad("set an element of what is not declared", 2, HEAD + "\u00a7z[0] = 1;");
        EDGE.bad("set a function", 2, HEAD + "\u00a7f = 1;");
        EDGE.bad("call as a statement", 2, HEAD + "\u00a7f(1);");
        EDGE.bad("an input for what is not declared", 2, HEAD + "any \u00a7z : 1;");
        EDGE.bad("an input for a function", 2, HEAD + "any \u00a7f : 1;");
        EDGE.bad("an input for an array", 2, HEAD + "any \u00a7t : 1;");
        EDGE.bad("an input for an element", 2, HEAD + "any \u00a7t[0] : 1;");
        EDGE.bad("an operand that is not declared", 2, HEAD + "x = \u00a7z;");
        EDGE.bad("a function that is not declared", 2, HEAD + "x = \u00a7z(1);");
        EDGE.bad("an array that is not declared", 2, HEAD + "x = \u00a7z[1];");
        EDGE.bad("declared behind it", 2, "width 3; fun f(a) = \u00a7z; var z;");
        EDGE.bad("it comes before what is behind it", 2, HEAD + "x = \u00a7z z;");
        EDGE.bad("what is before it comes first", 1, HEAD + "x \u00a7z;");
    }

    /** An ARRAY without [ , a variable with it, a FUNCTION in an EXPRESSION without ( are 1, at what stands there. */
    private static void arraysAndFunctionsWithoutTheirSign() {
        EDGE.step("an array without [, set", HEAD + "t[0] = 1;", 1, HEAD + "t \u00a7= 1;");
        EDGE.step("an array without [, read", HEAD + "x = t[0];", 1, HEAD + "x = t\u00a7;");
        EDGE.bad("an array without [, read within", 1, HEAD + "x = (t\u00a7) + 1;");
        EDGE.bad("an array with (", 1, HEAD + "x = t\u00a7(0);");
        EDGE.bad("an array at the end", 1, HEAD + "x = t\u00a7");
        EDGE.step("a variable with [, set", HEAD + "x = 1;", 1, HEAD + "x\u00a7[0] = 1;");
        EDGE.step("a variable with [, read", HEAD + "x = y;", 1, HEAD + "x = y\u00a7[0];");
        EDGE.bad("a variable with (", 1, HEAD + "x = y\u00a7(0);");
        EDGE.step("a function without (", HEAD + "x = f(1);", 1, HEAD + "x = f\u00a7;");
        EDGE.bad("a function without ( as an operand", 1, HEAD + "x = f \u00a7+ 1;");
        EDGE.bad("a function with [", 1, HEAD + "x = f\u00a7[1];");
        EDGE.bad("a function before without ( in a function", 1, HEAD + "fun h(p) = f\u00a7; ");
        EDGE.bad("what is behind is not declared", 1, HEAD + "x = t \u00a7z;");
    }

    /** A FUNCTION with another number of EXPRESSIONS: found at the first , too many, or at the ). */
    private static void numbersOfExpressions() {
        EDGE.step("one", HEAD + "x = f(1);", 2, HEAD + "x = \u00a7f(1, 2);");
        EDGE.step("two", HEAD + "x = g(1, 2);", 2, HEAD + "x = \u00a7g(1);");
        EDGE.bad("three of two", 2, HEAD + "x = \u00a7g(1, 2, 3);");
        EDGE.bad("none, where one must stand", 1, HEAD + "x = f(\u00a7);");
        EDGE.bad("a , and nothing", 1, HEAD + "x = g(1, \u00a7);");
        EDGE.bad("found at the , before what is behind it", 2, HEAD + "x = \u00a7f(1, $);");
        EDGE.bad("found at the , before the end", 2, HEAD + "x = \u00a7f(1,");
        EDGE.bad("found behind a fault within", 2, HEAD + "x = f(\u00a7z, 2);");
        EDGE.bad("found behind a number out of range within", 3, HEAD + "x = f(\u00a78, 2);");
        EDGE.bad("found at the ) and not before", 1, HEAD + "x = g(1 \u00a7;");
        EDGE.bad("found at the ) and not before, by the end", 1, HEAD + "x = g(1\u00a7");
        EDGE.bad("found at the ) behind a fault within", 2, HEAD + "x = g(\u00a7z);");
        EDGE.bad("the inner one is found first", 2, HEAD + "x = g(\u00a7g(1));");
        EDGE.bad("the outer one behind a right inner one", 2, HEAD + "x = \u00a7g(g(1, 2));");
        EDGE.bad("in a function", 2, HEAD + "fun h(p) = p + \u00a7g(p);");
        EDGE.step("less of two", HEAD + "x = less(1, 2);", 1, HEAD + "x = less(1\u00a7);");
        EDGE.bad("less of three", 1, HEAD + "x = less(1, 2\u00a7, 3);");
        EDGE.bad("less of none", 1, HEAD + "x = less(\u00a7);");
        String eight = "width 3; var x; fun f(a, b, c, d, e, g, h, i) = i; ";
        EDGE.good("eight", eight + "x = f(1, 1, 1, 1, 1, 1, 1, 1);");
        EDGE.bad("seven of eight", 2, eight + "x = \u00a7f(1, 1, 1, 1, 1, 1, 1);");
        EDGE.bad("nine of eight", 2, eight + "x = \u00a7f(1, 1, 1, 1, 1, 1, 1, 1, 1);");
    }

    /** If EXPRESSION BLOCK, perhaps else BLOCK or else if .. (another if). */
    private static void elseAndElseIf() {
        EDGE.good("without else", HEAD + "if x { } x = 1;");
        EDGE.step("one else", HEAD + "if x { } else { }", 1, HEAD + "if x { } else { } \u00a7else { }");
        EDGE.good("else if without else", HEAD + "if x { } else if y { } x = 1;");
        EDGE.step("else if with else", HEAD + "if x { } else if y { } else { }", 1,
            HEAD + "if x { } else if y { } else { } \u00a7else if x { }");
        EDGE.bad("else alone", 1, HEAD + "\u00a7else { }");
        EDGE.bad("else behind a while", 1, HEAD + "while 0 limit 1 { } \u00a7else { }");
        EDGE.bad("else and a statement", 1, HEAD + "if x { } else \u00a7x = 1;");
        EDGE.bad("if without an expression", 1, HEAD + "if \u00a7{ }");
        EDGE.bad("else if without an expression", 1, HEAD + "if x { } else if \u00a7{ }");
        EDGE.bad("if without a block", 1, HEAD + "if x \u00a7;");
        RunProver x = Tally.reading("width 2; var x; var y; any x : 2; if x == 1 { y = 1; } else if x == 2 { y = 2; } else { y = 3; }");
        int[] due = {3, 1, 2, 3};
        for (int k = 0; k < due.length; k++) {
            x.put(0, k);
            TALLY.due("which block of " + k, due[k], x.value(1, 0));
        }
    }

    /** From the loosest to the tightest, each from left to right: one pair at each step of the ladder. */
    private static void howTightlySignsBind() {
        Object[][] due = {
            {"1 || 0 && 0", 1}, {"0 && 1 || 1", 1}, {"2 && 0 | 4", 1}, {"4 | 0 && 0", 0}, {"1 | 1 ^ 1", 1}, {"1 ^ 1 | 1", 1},
            {"1 ^ 0 & 0", 1}, {"0 & 0 ^ 1", 1}, {"2 & 2 == 2", 0}, {"2 == 2 & 3", 1}, {"6 & 6 != 0", 0},
            {"3 == 2 < 3", 0}, {"2 < 3 == 1", 1}, {"1 != 2 >= 2", 0}, {"1 < 1 << 2", 1}, {"1 << 2 > 3", 1}, {"4 >= 8 >> 1", 1},
            {"1 << 1 + 1", 4}, {"2 + 2 << 1", 8}, {"8 >> 3 - 2", 4}, {"2 + 3 * 4", 14}, {"3 * 4 + 2", 14}, {"9 - 6 / 3", 7},
            {"9 - 7 % 4", 6}, {"10 - 3 - 2", 5}, {"10 - 3 + 2", 9}, {"24 / 4 / 2", 3}, {"24 / 4 * 2", 12}, {"25 % 7 * 2", 8},
            {"2 * 25 % 7", 1}, {"64 >> 3 >> 1", 4}, {"1 << 3 >> 1", 4}, {"5 == 5 == 1", 1}, {"5 != 5 == 0", 1}, {"3 > 2 > 1", 0},
            {"3 > 2 >= 1", 1}, {"1 < 2 <= 0", 0}, {"-1 >> 4", 15}, {"-2 * 3", 250}, {"~1 & 3", 2}, {"!1 == 0", 1}, {"!0 + 1", 2},
            {"- - 5", 5}, {"-~5", 6}, {"~-5", 4}, {"!!5", 1}, {"!-0", 1}, {"0 ? 1 : 0 ? 2 : 3", 3}, {"1 ? 0 ? 2 : 3 : 4", 3},
            {"0 || 1 ? 2 : 3", 2}, {"1 ? 2 : 3 || 4", 2}, {"0 ? 2 : 3 || 4", 1}, {"(2 + 3) * 4", 20}, {"2 * (3 + 4)", 14},
            {"(1 ? 2 : 3) + 1", 3}, {"1 ? 2 : 3 + 1", 2}, {"1 + 0 ? 5 : 6", 5}};
        for (Object[] row : due) {
            RunProver x = Tally.reading("width 8; var z; z = " + row[0] + ";");
            TALLY.due("value of " + row[0], (Integer) row[1], x.value(0, 0));
        }
    }
}
