/** Terms, FAULT 4: what is nested too deep, what is too many, and what is too much at the TEXT's end. */
public final class LimitEdgesTest {
    private static final Tally TALLY = new Tally("LimitEdgesTest");
    private static final Edge EDGE = new Edge(TALLY);
    private static final String HEAD = "width 3; var x; var t[3]; fun f(p) = p; fun g(p, q) = p; ";
    private static final String[] ANYTHING = {"x", "z", "7", "8", "999999999", "0000000000", "(", ")", ";", "}", "{", "$",
        "\u0000", "t", "f", "less", "width", "limit", "-", "?", ":", ","};

    public static void main(String[] args) {
        nestedExpressions();
        fourComesBeforeOne();
        nestedInBlocks();
        aBlockWithoutStatements();
        behindElseIf();
        nestedInMixedWays();
        namesDeclared();
        wordsNumbersAndSigns();
        checks();
        whatComesFirst();
        depthOfEachKind();
        depthOfTwoOperands();
        depthOfOne();
        depthsThatAreNoneOfTheLast();
        costs();
        inputs();
        atTheEndAlone();
        TALLY.close();
    }

    /** In ( ), [ ], of FUNCTIONS, less, behind ? and its :, behind UNARY - ~ !. */
    private static void nestedExpressions() {
        String[][] kinds = {{"(", ")"}, {"t[", "]"}, {"f(", ")"}, {"g(", ",1)"}, {"less(", ",1)"}, {"1?", ":1"},
            {"-", ""}, {"~", ""}, {"!", ""}};
        for (String[] kind : kinds) {
            String open = Tally.times(kind[0], 50);
            String close = Tally.times(kind[1], 50);
            EDGE.step("50 times " + kind[0], HEAD + "x = " + open + "x" + close + ";", 4,
                HEAD + "x = " + open + kind[0] + "\u00a7x" + kind[1] + close + ";");
        }
        String[][] seconds = {{"g(1,", ")", "g("}, {"less(1,", ")", "less("}, {"1?1:", "", "1?"}};
        for (String[] kind : seconds) {
            String open = Tally.times(kind[0], 50);
            String close = Tally.times(kind[1], 50);
            EDGE.step("50 times " + kind[0], HEAD + "x = " + open + "x" + close + ";", 4,
                HEAD + "x = " + open + kind[2] + "\u00a71");
        }
        String deep = Tally.times("(", 49) + "x" + Tally.times(")", 49);
        String deeper = Tally.times("(", 50) + "\u00a7x" + Tally.times(")", 50);
        EDGE.step("behind ?", HEAD + "x = 1 ? " + deep + " : 1;", 4, HEAD + "x = 1 ? " + deeper);
        EDGE.step("behind its :", HEAD + "x = 1 ? 1 : " + deep + ";", 4, HEAD + "x = 1 ? 1 : " + deeper);
        EDGE.good("before ?, it is not nested", HEAD + "x = (" + deep + ") ? 1 : 1;");
        EDGE.good("operands side by side are not nested", HEAD + "x = (" + deep + ") + (" + deep + ") * (" + deep + ");");
        EDGE.step("the index of an array that is set", HEAD + "t[" + deep + "] = (" + deep + ");", 4,
            HEAD + "t[(" + Tally.times("(", 49) + "\u00a7x");
        EDGE.step("in a function", "width 3; fun f(p) = " + Tally.times("(", 50) + "p" + Tally.times(")", 50) + ";", 4,
            "width 3; fun f(p) = " + Tally.times("(", 51) + "\u00a7p");
        EDGE.good("a function's expression is not nested in its call", "width 3; var x; fun f(p) = " + Tally.times("(", 50)
            + "p" + Tally.times(")", 50) + "; x = " + Tally.times("f(", 50) + "x" + Tally.times(")", 50) + ";");
    }

    /** Its first WORD, NUMBER or sign, whatever stands there: 4 comes before 1. */
    private static void fourComesBeforeOne() {
        for (String what : ANYTHING) {
            for (String open : new String[] {"(", "t[", "f(", "less(", "1?", "-", "~", "!", "1?1:"}) {
                String fifty = Tally.times("(", 50);
                int behind = open.indexOf('1') == 0 && open.length() > 2 ? 2 : open.length();
                EDGE.bad("anything behind " + open, 4, HEAD + "x = " + fifty + open.substring(0, behind) + "\u00a7"
                    + open.substring(behind) + what);
            }
        }
        EDGE.bad("a word that is too long", 4, HEAD + "x = " + Tally.times("(", 51) + "\u00a7" + Tally.times("a", 32));
        EDGE.bad("the text's end", 4, HEAD + "x = " + Tally.times("(", 51) + "\u00a7");
        EDGE.bad("at 50 what stands there is looked at", 1, HEAD + "x = " + Tally.times("(", 50) + "\u00a7)");
        EDGE.bad("at 50 a name is looked for", 2, HEAD + "x = " + Tally.times("(", 50) + "\u00a7z");
        EDGE.bad("at 50 a number is looked at", 3, HEAD + "x = " + Tally.times("(", 50) + "\u00a78");
        EDGE.bad("what must stand before the nesting is 1", 1, HEAD + "x = " + Tally.times("(", 50) + "t\u00a7(x");
        EDGE.bad("a function without ( there is 1", 1, HEAD + "x = " + Tally.times("(", 50) + "f\u00a7;");
        EDGE.bad("less without ( there is 1", 1, HEAD + "x = " + Tally.times("(", 50) + "less\u00a7;");
    }

    private static void nestedInBlocks() {
        String[] opens = {"if 1 { ", "while 0 limit 0 { ", "if 1 { } else { "};
        for (String open : opens) {
            String fifty = open.startsWith("while") ? Tally.times(open, 25) + Tally.times("if 1 { ", 25) : Tally.times(open, 50);
            String close = Tally.times("}", 50);
            EDGE.good("50 times " + open, HEAD + fifty + "x = 1; x = 0 * 0;" + close);
            EDGE.bad("an expression within", 4, HEAD + fifty + "x = (\u00a7x);");
            EDGE.bad("an index within", 4, HEAD + fifty + "t[\u00a70] = 1;");
            EDGE.bad("behind ? within", 4, HEAD + fifty + "x = 1 ? \u00a71 : 1;");
            EDGE.bad("behind - within", 4, HEAD + fifty + "assert -\u00a71;");
            for (String what : ANYTHING) {
                if (!what.equals("}")) {
                    EDGE.bad("51 times " + open, 4, HEAD + fifty + "if 1 {\u00a7" + what);
                }
            }
            EDGE.bad("51 times " + open + ": keywords", 4, HEAD + fifty + "if 1 { \u00a7assert 1; }" + close);
            EDGE.bad("51 times " + open + ": in the other block", 4, HEAD + fifty + "if 1 { } else { \u00a7assert 1; }" + close);
            EDGE.bad("51 times " + open + ": in rounds", 4, HEAD + fifty + "while 0 limit 0 { \u00a7assert 1; }" + close);
        }
        EDGE.good("one behind the other they are not nested", HEAD + Tally.times("if 1 { x = 1; } else { x = 1; } ", 60));
        EDGE.good("conditions are not nested in their blocks", HEAD + Tally.times("if 1 { ", 50) + "if x { } assume x; any x : 1; "
            + "while 0 limit 0 { }" + Tally.times("}", 50));
    }

    /** One without STATEMENTS has nothing nested in it, however deep it is. */
    private static void aBlockWithoutStatements() {
        EDGE.good("a block at 51", HEAD + Tally.times("if 1 { ", 51) + Tally.times("}", 51));
        EDGE.good("both blocks at 51", HEAD + Tally.times("if 1 { ", 50) + "if 1 { } else { }" + Tally.times("}", 50));
        EDGE.good("rounds at 51", HEAD + Tally.times("if 1 { ", 50) + "while 0 limit 1 { }" + Tally.times("}", 50));
        EDGE.good("with a remark in it", HEAD + Tally.times("if 1 { ", 51) + "# x = 1;\n" + Tally.times("}", 51));
        EDGE.good("behind 50 else if", HEAD + Tally.times("if 1 { } else ", 50) + "if 1 { } else { }");
        EDGE.bad("a block at 52 is in one with statements", 4, HEAD + Tally.times("if 1 { ", 51) + "\u00a7if 1 { }" + Tally.times("}", 51));
        EDGE.bad("a } too many behind it", 1, HEAD + Tally.times("if 1 { ", 51) + Tally.times("}", 51) + "\u00a7}");
    }

    private static void behindElseIf() {
        String chain = Tally.times("if 0 { } else ", 50);
        EDGE.step("50 times else if", HEAD + chain + "if x { }", 4, HEAD + chain + "if x { } else if \u00a7x { }");
        EDGE.bad("whatever stands there", 4, HEAD + chain + "if x { } else if \u00a7{ }");
        EDGE.bad("the text's end", 4, HEAD + chain + "if x { } else if\u00a7");
        EDGE.step("statements in the last block", HEAD + Tally.times("if 0 { } else ", 49) + "if x { x = 1; }", 4,
            HEAD + chain + "if x { \u00a7x = 1; }");
        EDGE.step("statements in the last else", HEAD + chain + "{ x = 1; }", 4, HEAD + chain + "if x { } else { \u00a7x = 1; }");
        EDGE.step("in the expression", HEAD + Tally.times("if 0 { } else ", 49) + "if (x) { }", 4, HEAD + chain + "if (\u00a7x) { }");
        EDGE.good("the blocks before are not nested in those behind", HEAD + Tally.times("if 0 { if 0 { x = 1; } } else ", 40) + "{ }");
        EDGE.good("one behind the other they are not nested", HEAD + chain + "{ } " + chain + "{ }");
    }

    private static void nestedInMixedWays() {
        String blocks = "if 0 { } else if 1 { while 0 limit 0 { if 0 { } else { ";
        String inner = "-t[f(g(1, less(1, ((1 ? ~!";
        EDGE.step("blocks and expressions", HEAD + Tally.times(blocks, 10) + "x = " + inner + "x : 1)))))];"
            + Tally.times("} } }", 10), 4, HEAD + Tally.times(blocks, 10) + "x = " + inner + "(\u00a7x");
        EDGE.good("40 in blocks, 10 in brackets", HEAD + Tally.times(blocks, 10) + "x = " + Tally.times("(", 10) + "x"
            + Tally.times(")", 10) + ";" + Tally.times("} } }", 10));
        EDGE.bad("40 in blocks, 11 in brackets", 4, HEAD + Tally.times(blocks, 10) + "x = " + Tally.times("(", 11) + "\u00a7x");
    }

    private static String variables(int amount) {
        StringBuilder text = new StringBuilder("width 1; ");
        for (int i = 0; i < amount; i++) {
            text.append(i % 3 == 2 ? "var a" + i + "[2]; " : "var v" + i + "; ");
        }
        return text.toString();
    }

    /** The 201st NAME declared (PARAMETERS too); it is 2 if it is declared already. */
    private static void namesDeclared() {
        EDGE.step("variables and arrays", variables(200), 4, variables(200) + "var \u00a7b;");
        EDGE.bad("an array", 4, variables(200) + "var \u00a7b[2];");
        EDGE.bad("a function", 4, variables(200) + "fun \u00a7b(p) = 1;");
        EDGE.bad("declared already", 2, variables(200) + "var \u00a7v0;");
        EDGE.bad("no name", 1, variables(200) + "var \u00a7less;");
        EDGE.bad("before what is behind it", 4, variables(200) + "var \u00a7b $");
        EDGE.step("a function", variables(198) + "fun f(p) = p;", 4, variables(199) + "fun f(\u00a7p) = p;");
        EDGE.step("a parameter", variables(197) + "fun f(p, q) = p;", 4, variables(198) + "fun f(p, \u00a7q) = p;");
        EDGE.bad("a parameter that is declared already", 2, variables(198) + "fun f(p, \u00a7p) = p;");
        EDGE.bad("a parameter that is the function", 2, variables(199) + "fun f(\u00a7f) = p;");
        EDGE.step("behind a function with a parameter", variables(197) + "fun f(p) = p; var b;", 4,
            variables(198) + "fun f(p) = p; var \u00a7b;");
        EDGE.bad("the name of a parameter before, which counts again", 4, variables(198) + "fun f(p) = p; var \u00a7p;");
        StringBuilder functions = new StringBuilder("width 1; ");
        for (int i = 0; i < 100; i++) {
            functions.append("fun f" + i + "(p) = p; ");
        }
        EDGE.step("functions with parameters", functions.toString(), 4, functions + "var \u00a7b;");
        EDGE.bad("a function once more", 4, functions + "fun \u00a7h(p) = p;");
        RunProver x = Tally.reading(variables(200) + "assert 1;");
        TALLY.due("variables and arrays", 200, x.count(3));
        TALLY.due("the last", 0, x.value(199, 0));
        TALLY.thrown("one more", 1, () -> x.value(200, 0));
    }

    /** The 8,001st WORD, NUMBER or sign (a byte that is none, too), where it stands. */
    private static void wordsNumbersAndSigns() {
        String full = "width 1;var x;while 0 limit 0{" + Tally.times("x=1;", 1997);
        EDGE.good("8,000", full + "}");
        for (String what : ANYTHING) {
            EDGE.bad("the 8,001st", 4, full + "}\u00a7" + what);
        }
        EDGE.bad("a word that is too long", 4, full + "} \u00a7" + Tally.times("a", 32));
        EDGE.bad("a number that is too long", 4, full + "} \u00a7" + Tally.times("1", 10));
        EDGE.bad("with one more behind it", 4, full + "} \u00a7x x");
        EDGE.good("blanks and remarks are none", full + "}  # x x x x\n #");
        EDGE.bad("the 8,000th that can't stand there", 1, full + "\u00a7;x");
        EDGE.bad("the 8,000th, not declared", 2, full + "\u00a7z x");
        EDGE.bad("the text's end is none", 1, full + "x\u00a7");
        EDGE.bad("a } as the 8,001st", 4, full.substring(0, full.length() - 4) + "x=~1;\u00a7}");
        EDGE.bad("a ) as the 8,001st, before the number of expressions", 4, "width 1;var x;fun f(p,q)=p;while 0 limit 0{"
            + Tally.times("x=1;", 1993) + "x=~~f(1\u00a7)");
        EDGE.bad("a ) as the 8,000th", 2, "width 1;var x;fun f(p,q)=p;while 0 limit 0{"
            + Tally.times("x=1;", 1993) + "x=~\u00a7f(1)");
        EDGE.bad("a , as the 8,001st, before the number of expressions", 4, "width 1;var x;fun f(p)=p;while 0 limit 0{"
            + Tally.times("x=1;", 1994) + "x=f(1\u00a7,");
    }

    /** The 31st CHECK (of an ARRAY at its NAME). */
    private static void checks() {
        String thirty = "width 3; var x; var t[3]; " + Tally.times("assert 1; t[0] = t[1]; while t[0] limit 0 { } ", 10);
        EDGE.good("thirty", thirty);
        TALLY.due("thirty", 30, Tally.reading(thirty).count(0));
        EDGE.bad("an assert", 4, thirty + "\u00a7assert 1;");
        EDGE.bad("a while", 4, thirty + "\u00a7while 0 limit 0 { }");
        EDGE.bad("an array at its name", 4, thirty + "\u00a7t[0] = 1;");
        EDGE.bad("an array before what is behind it", 4, thirty + "\u00a7t $");
        EDGE.bad("an assert before what is behind it", 4, thirty + "\u00a7assert $");
        EDGE.bad("a while before what is behind it", 4, thirty + "\u00a7while $");
        EDGE.bad("in a block", 4, thirty + "if x { x = 1; \u00a7assert 1; }");
        EDGE.bad("within a while that is the thirtieth", 4, "width 3; " + Tally.times("assert 1; ", 29) + "while 0 limit 0 { \u00a7assert 1; }");
        EDGE.good("what is no check", thirty + "assume 1; x = 1; any x : 1; if x { } else { } x = t[2];");
        EDGE.bad("a variable with [ is no check", 1, thirty + "x\u00a7[0] = 1;");
        EDGE.bad("what is not declared is no check", 2, thirty + "\u00a7z[0] = 1;");
    }

    /** FAULTS, the first that is found, from left to right. */
    private static void whatComesFirst() {
        EDGE.bad("1 before 2", 1, HEAD + "x \u00a7x; z = 1;");
        EDGE.bad("2 before 1", 2, HEAD + "\u00a7z = 1; x x;");
        EDGE.bad("2 before 3", 2, HEAD + "x = \u00a7z + 8;");
        EDGE.bad("3 before 2", 3, HEAD + "x = \u00a78 + z;");
        EDGE.bad("3 before 1", 3, HEAD + "x = \u00a78 8;");
        EDGE.bad("1 before 3", 1, HEAD + "x = 7 \u00a78;");
        EDGE.bad("3 before 4", 3, HEAD + "x = \u00a78 + " + Tally.times("(", 60));
        EDGE.bad("4 before 3", 4, HEAD + "x = " + Tally.times("(", 51) + "\u00a78");
        EDGE.bad("any fault before those of the end", 3, "width 3; var x; " + Tally.times("any x : 3; ", 9) + "x = \u00a78;");
        EDGE.bad("the end that can't stand there before those of the end", 1, "width 3; var x; " + Tally.times("any x : 3; ", 9) + "x = 7\u00a7");
        EDGE.bad("any fault before the 8,001st", 2, "width 1; \u00a7z = 1; " + Tally.times(";", 8001));
        EDGE.bad("a fault at a place behind that of another one", 1, HEAD + "x = g(1 \u00a71);");
    }

    /** An EXPRESSION whose DEPTH is this, of PARAMETERS and FUNCTIONS: f1 to f4 have 50 more each. */
    private static String ladder(int depth) {
        StringBuilder text = new StringBuilder("width 1; var x; var t[1]; fun f0(p) = p; ");
        int reached = 1;
        int f = 0;
        while (reached < depth) {
            int more = Math.min(49, depth - reached - 1);
            f++;
            text.append("fun f" + f + "(p) = " + Tally.times("~", more) + "f" + (f - 1) + "(p); ");
            reached += more + 1;
        }
        return text.append("fun top(p) = ").append(f == 0 ? "p" : "f" + f + "(p)").append("; ").toString();
    }

    /**
     * All else 1 more than the deepest within, of a FUNCTION its EXPRESSION, too: top's EXPRESSION has
     * 1 more than what ladder tells, its call 2 more.
     */
    private static void depthOfEachKind() {
        EDGE.step("a function", ladder(199), 4, ladder(200) + "\u00a7");
        EDGE.step("its call", ladder(198) + "x = top(1);", 4, ladder(199) + "x = top(1);\u00a7");
        String[] kinds = {"-@", "~@", "!@", "t[@]", "less(@, 1)", "less(1, @)", "f0(@)", "@ ? 1 : 1", "1 ? @ : 1", "1 ? 1 : @",
            "1 + @", "1 || @"};
        for (String kind : kinds) {
            String[] statements = {"x = #;", "t[#] = 1;", "t[0] = #;", "assume #;", "assert #;", "if # { }", "if 1 { } else if # { }",
                "while # limit 0 { }", "if 1 { x = #; }", "while 0 limit 0 { x = #; }"};
            for (String statement : statements) {
                String text = statement.replace("#", kind.replace("@", "top(x)"));
                EDGE.step("depth of " + kind, ladder(197) + text, 4, ladder(198) + text + "\u00a7");
            }
        }
        EDGE.step("two kinds", ladder(196) + "x = -t[top(x)];", 4, ladder(197) + "x = -t[top(x)];\u00a7");
        EDGE.good("brackets add nothing", ladder(198) + "x = (((top(x))));");
        EDGE.good("brackets add nothing", ladder(197) + "x = (1 + (top((x))));");
        EDGE.step("in a function that is never called", ladder(196) + "fun more(q) = -top(q);", 4, ladder(198) + "fun more(q) = -top(q);\u00a7");
        EDGE.step("a function whose argument is the deepest", ladder(197) + "x = f0(top(x));", 4, ladder(198) + "x = f0(top(x));\u00a7");
    }

    /** Two operands: that of the left one, or 1 more than that of the right one. */
    private static void depthOfTwoOperands() {
        for (String sign : new String[] {"||", "&&", "|", "^", "&", "==", "!=", "<", "<=", ">", ">=", "<<", ">>", "+", "-"}) {
            String left = "x = top(x) " + sign + " x;";
            EDGE.step("left of " + sign, ladder(198) + left, 4, ladder(199) + left + "\u00a7");
            String right = "x = x " + sign + " top(x);";
            EDGE.step("right of " + sign, ladder(197) + right, 4, ladder(198) + right + "\u00a7");
        }
        EDGE.step("left of *", ladder(198) + "x = top(x) * x / x % x;", 4, ladder(199) + "x = top(x) * x / x % x;\u00a7");
        EDGE.step("right of right", ladder(196) + "x = x + x * top(x);", 4, ladder(197) + "x = x + x * top(x);\u00a7");
        EDGE.step("left of right", ladder(197) + "x = x + top(x) * x;", 4, ladder(198) + "x = x + top(x) * x;\u00a7");
        EDGE.step("right of left", ladder(197) + "x = x * top(x) + x;", 4, ladder(198) + "x = x * top(x) + x;\u00a7");
        EDGE.good("many to the left", "width 1; var x; x = x" + Tally.times("|x", 1500) + ";");
    }

    /** A NUMBER, variable, PARAMETER 1: ten signs twenty times, each more tightly, make 200 more. */
    private static void depthOfOne() {
        String signs = "@||@&&@|@^@&@==@<@<<@+@*";
        String more = Tally.times(signs + "(", 19) + signs + "@" + Tally.times(")", 19);
        String less = more.substring("@||".length());
        String[] ones = {"x = #;x", "x = #;1", "x = #;0", "fun f(p) = #;p", "fun f(p) = #;1"};
        for (String one : ones) {
            String leaf = one.substring(one.length() - 1);
            String text = "width 1; var x; " + one.substring(0, one.length() - 1);
            EDGE.step("a depth of one: " + leaf, text.replace("#", less).replace("@", leaf), 4,
                text.replace("#", more).replace("@", leaf) + "\u00a7");
        }
    }

    private static void depthsThatAreNoneOfTheLast() {
        EDGE.bad("the deepest is not the last", 4, ladder(199) + "x = top(1); x = 1;\u00a7");
        String later = "fun a(q) = q; fun b(q, r) = a(q) + r; fun c(q) = b(q, a(q)); ";
        EDGE.step("a function with others behind it", ladder(198) + later + "x = top(1);", 4,
            ladder(199) + later + "x = top(1);\u00a7");
        EDGE.step("in one of those behind it", ladder(197) + later + "fun d(q) = top(q); x = d(1);", 4,
            ladder(198) + later + "fun d(q) = top(q); x = d(1);\u00a7");
        EDGE.good("one that is not deep, behind a deep one", ladder(199) + later + "x = a(c(b(a(1), 1)));");
        EDGE.bad("more operators that wait than any depth allows", 4,
            "width 1; var x; x = " + Tally.times("1||1&&1|1^1&1==1<1<<1+1*(", 50) + "1" + Tally.times(")", 50) + ";\u00a7");
        EDGE.bad("with a remark behind it", 4, ladder(199) + "x = top(1); # end\u00a7");
        EDGE.bad("with blanks behind it", 4, ladder(199) + "x = top(1); \n\n\u00a7");
    }

    /** COSTS above 30,000. */
    private static void costs() {
        String head = "width 1; var x; fun f(p) = p; ";
        String loops = "while x limit 50 { " + Tally.times("x = x; ", 40) + "} ";
        int each = 8 + 51 * 3 + 50 * 40 * 12;
        TALLY.due("costs of rounds", each, Tally.reading(head + loops).count(4));
        int left = 30000 - each;
        String rest = Tally.times("x = x; ", left / 12 - 1) + "x = " + Tally.times("f(", left % 12) + "x" + Tally.times(")", left % 12) + ";";
        TALLY.due("costs of 30,000", 30000, Tally.reading(head + loops + rest).count(4));
        EDGE.step("30,001", head + loops + rest, 4, head + loops + rest.replace("x = f(", "x = f(f(").replace(");", "));") + "\u00a7");
        EDGE.bad("far above", 4, head + "while x limit 50 { " + loops + loops + "}\u00a7");
        EDGE.bad("so far above that an int would not hold it", 4, head + Tally.times("while x limit 50 { ", 30) + "x = x;" + Tally.times("}", 30) + "\u00a7");
        EDGE.good("a limit of 0 leaves nothing of it", head + "while x limit 0 { while x limit 50 { " + loops + loops + "} }");
        EDGE.bad("a limit of 1 leaves all of it", 4, head + "while x limit 1 { while x limit 50 { " + loops + loops + "} }\u00a7");
        StringBuilder twice = new StringBuilder("width 8; var x; fun f0(p) = p * p; ");
        for (int i = 1; i <= 70; i++) {
            twice.append("fun f" + i + "(p) = f" + (i - 1) + "(f" + (i - 1) + "(p)); ");
        }
        EDGE.good("functions that are not called cost nothing", twice + "x = f4(x);");
        EDGE.bad("functions cost each time", 4, twice + "x = f5(x);\u00a7");
        EDGE.bad("more than a long would hold", 4, twice + "x = f70(x);\u00a7");
        EDGE.good("in an unrolled text of none", twice + "while 0 limit 0 { x = f70(x); }");
    }

    /** INPUTS of more than 12 bits. */
    private static void inputs() {
        String head = "width 8; var x; ";
        EDGE.step("two", head + "any x : 8; any x : 4;", 4, head + "any x : 8; any x : 5;\u00a7");
        EDGE.step("of one bit", head + Tally.times("any x : 1; ", 12), 4, head + Tally.times("any x : 1; ", 13) + "\u00a7");
        EDGE.step("in rounds", head + "while x limit 12 { any x : 1; }", 4, head + "while x limit 13 { any x : 1; }\u00a7");
        EDGE.step("in rounds of rounds", head + "while x limit 3 { while x limit 4 { any x : 1; } }", 4,
            head + "while x limit 3 { while x limit 4 { any x : 1; } } any x : 1;\u00a7");
        EDGE.step("in both blocks", head + "if x { any x : 6; } else { any x : 6; }", 4, head + "if x { any x : 6; } else { any x : 7; }\u00a7");
        EDGE.step("behind a limit of 0", head + "while 0 limit 0 { any x : 8; any x : 8; } any x : 8; any x : 4;", 4,
            head + "while 0 limit 0 { any x : 8; any x : 8; } any x : 8; any x : 5;\u00a7");
        EDGE.bad("that are never come to", 4, head + "assume 0; any x : 8; any x : 5;\u00a7");
        EDGE.bad("so many that an int would not hold them", 4, head + Tally.times("while 0 limit 50 { ", 20) + "any x : 8;" + Tally.times("}", 20) + "\u00a7");
    }

    /** Then, at the TEXT's end: 4 with the TEXT's length as its place. */
    private static void atTheEndAlone() {
        String tooMuch = "width 8; var x; any x : 8; any x : 8;";
        EDGE.bad("the length", 4, tooMuch + "\u00a7");
        EDGE.bad("the length with blanks", 4, tooMuch + "  \n\u00a7");
        EDGE.bad("the length with a remark", 4, tooMuch + " # $\u00a7");
        EDGE.bad("another fault behind it", 1, tooMuch + "\u00a7$");
        EDGE.bad("all three", 4, ladder(199) + "x = top(x); " + Tally.times("any x : 1; ", 13) + "while 0 limit 50 { while 0 limit 50 { x = 1; } }\u00a7");
        RunProver x = Tally.reading(tooMuch);
        TALLY.due("there is no text then", -3, x.run());
        TALLY.due("no inputs", 0, x.count(1));
        TALLY.due("no bits", 0, x.count(2));
        TALLY.due("no costs", 0, x.count(4));
    }
}
