/** Promise 5: each FAULT at each edge that the document names. */
public final class FaultsTest {
    private static final Tally TALLY = new Tally("FaultsTest");
    private static final String HEAD = "width 4; var x; var y; var t[3]; fun f(p) = p + 1; fun g(p, q) = p * q; ";

    public static void main(String[] args) {
        texts();
        words();
        declarations();
        names();
        statements();
        expressions();
        numbers();
        arguments();
        nesting();
        blocks();
        amounts();
        atTheEnd();
        TALLY.close();
    }

    /** The FAULT is due where the text has a paragraph sign. */
    private static void bad(int kind, String marked) {
        int place = marked.indexOf('\u00a7');
        String text = marked.replace("\u00a7", "");
        TALLY.due("fault of " + shown(text), kind * 100000 + place, Tally.faultOf(text));
        Model model = new Model(text);
        TALLY.due("model of " + shown(text), kind * 100000 + place, model.fault * 100000 + model.faultPlace);
    }

    private static void good(String text) {
        TALLY.due("fault of " + shown(text), 0, Tally.faultOf(text));
    }

    private static String shown(String text) {
        return text.length() > 150 ? text.substring(0, 150) + ".." : text;
    }

    private static void texts() {
        bad(1, "\u00a7");
        bad(1, "   \u00a7");
        bad(1, " # nothing\u00a7");
        bad(1, "width\u00a7");
        bad(1, "\u00a7var x;");
        bad(1, "\u00a7Width 3;");
        bad(1, "\u00a7widths 3;");
        bad(1, "width \u00a7x;");
        bad(1, "width 3\u00a7");
        bad(1, "width 3 \u00a7var x;");
        good("width 3;");
        good("width 08 ;");
        good("width\t8\r\n;#var");
        good("width#\n8#\n;#");
        bad(1, "width 3; \u00a7}");
        bad(1, "width 3; var x; x = 1; \u00a7var y;");
        bad(1, "width 3; \u00a7width 3;");
        bad(1, "width 3; \u00a7;");
        bad(1, "width 3; \u00a7else");
        bad(1, "width 3; \u00a71");
    }

    private static void words() {
        String longest = "a" + Tally.times("_9", 15);
        good("width 3; var " + longest + ";");
        bad(1, "width 3; var \u00a7" + longest + "z;");
        good("width 3; var A_; var A; var a; var Var;");
        bad(1, "width 3; var \u00a7_a;");
        bad(1, "width 3; var \u00a71a;");
        bad(1, "width 3; var x; x = 1\u00a7a;");
        bad(1, "width 3; var x; x = \u00a70000000001;");
        good("width 3; var x; x = 000000001;");
        bad(1, "width 3; var x; x = 1 \u00a7$ 2;");
        bad(1, "width 3; var x; x = 1\u00a7\u0000;");
        bad(1, "width 3; var x; x = 1\u00a7\u00e4;");
        bad(1, "width 3; var x; x = 1\u00a7\u000b;");
        good("width 3; var x; x = 1 # $ \u00e4\n;");
        good("width 3; var x; x = 1 ;# $");
        bad(1, "width 3; var x; x = 1 <<\u00a7= 2;");
        bad(1, "width 3; var x; x \u00a7== 2;");
        bad(1, "width 3; var x; x = 1 ==\u00a7= 2;");
        bad(1, "width 3; var x; x = 1 >>\u00a7> 2;");
        good("width 3; var x; x = 1<<2>>1<=2>=1==0!=1&&2||3&1|2^3;");
        good("width 3; var x; x=-1- -1+~!x;");
    }

    private static void declarations() {
        bad(1, "width 3; var \u00a7;");
        bad(1, "width 3; var x\u00a7");
        bad(1, "width 3; var x \u00a7y;");
        bad(1, "width 3; var \u00a7less;");
        bad(1, "width 3; var \u00a7limit;");
        bad(3, "width 3; var t[\u00a70];");
        bad(3, "width 3; var t[\u00a717];");
        good("width 3; var t[16]; var u[1];");
        bad(1, "width 3; var t[\u00a7x];");
        bad(1, "width 3; var t[3\u00a7;");
        bad(1, "width 3; var t[3] \u00a7= 2;");
        bad(1, "width 3; fun f(\u00a7) = 1;");
        bad(1, "width 3; fun f \u00a7= 1;");
        bad(1, "width 3; fun f(a \u00a7b) = 1;");
        bad(1, "width 3; fun f(a,\u00a7) = 1;");
        bad(1, "width 3; fun f(a) \u00a7a;");
        bad(1, "width 3; fun f(a) = \u00a7;");
        bad(1, "width 3; fun f(a) = a\u00a7");
        good("width 3; fun f(a,b,c,d,e,f1,g,h) = a;");
        bad(4, "width 3; fun f(a,b,c,d,e,f1,g,h,\u00a7i) = a;");
        bad(2, "width 3; fun f(a,b,c,d,e,f1,g,h,\u00a7a) = a;");
        bad(1, "width 3; fun f(a,b,c,d,e,f1,g,h,\u00a71) = a;");
        bad(1, "width 3; fun f(a,b,c,d,e,f1,g,h,\u00a7) = a;");
    }

    private static void names() {
        bad(2, "width 3; var x; var \u00a7x;");
        bad(2, "width 3; var x; var \u00a7x[2];");
        bad(2, "width 3; var x; fun \u00a7x(a) = a;");
        bad(2, "width 3; var x; fun f(\u00a7x) = 1;");
        bad(2, "width 3; fun f(\u00a7f) = 1;");
        bad(2, "width 3; fun f(a, \u00a7a) = 1;");
        bad(2, "width 3; fun f(a) = 1; fun g(\u00a7f) = 1;");
        good("width 3; fun f(a) = a; fun g(a) = f(a); var a; a = 1;");
        bad(2, "width 3; fun f(a) = a; var x; x = \u00a7a;");
        bad(2, "width 3; fun f(a) = \u00a7f(a);");
        bad(2, "width 3; fun f(a) = \u00a7f;");
        bad(2, "width 3; fun f(a) = \u00a7g(a); fun g(a) = a;");
        bad(2, "width 3; var x; fun f(a) = \u00a7x;");
        bad(2, "width 3; var x[2]; fun f(a) = \u00a7x[a];");
        bad(2, HEAD + "\u00a7z = 1;");
        bad(2, HEAD + "x = \u00a7z;");
        bad(2, HEAD + "\u00a7f = 1;");
        bad(2, HEAD + "\u00a7f(1) = 1;");
        bad(2, HEAD + "any \u00a7t : 1;");
        bad(2, HEAD + "any \u00a7f : 1;");
        bad(2, HEAD + "any \u00a7z : 1;");
        bad(1, HEAD + "t \u00a7= 1;");
        bad(1, HEAD + "x\u00a7[0] = 1;");
        bad(1, HEAD + "x = t\u00a7;");
        bad(1, HEAD + "x = t \u00a7+ 1;");
        bad(1, HEAD + "x = y\u00a7[1];");
        bad(1, HEAD + "x = f\u00a7;");
        bad(1, HEAD + "x = f\u00a7[1];");
        bad(1, HEAD + "x = y\u00a7(1);");
        bad(1, HEAD + "x = t\u00a7(1);");
    }

    private static void statements() {
        bad(1, HEAD + "x \u00a7== 1;");
        bad(1, HEAD + "x = 1\u00a7");
        bad(1, HEAD + "x = 1 \u00a7}");
        bad(1, HEAD + "t[1 \u00a7= 1;");
        bad(1, HEAD + "t[1] \u00a7; = 1;");
        bad(1, HEAD + "any \u00a7: 1;");
        bad(1, HEAD + "any x \u00a7= 1;");
        bad(1, HEAD + "any x : \u00a7y;");
        bad(1, HEAD + "any x : 1\u00a7");
        bad(1, HEAD + "assert \u00a7;");
        bad(1, HEAD + "assume 1 \u00a7assume 1;");
        bad(1, HEAD + "if \u00a7{ }");
        bad(1, HEAD + "if x \u00a7x = 1;");
        bad(1, HEAD + "if x { x = 1; \u00a7");
        bad(1, HEAD + "if x { } else \u00a7x = 1;");
        bad(1, HEAD + "if x { } else \u00a7while x limit 1 { }");
        bad(1, HEAD + "if x { } else if \u00a7{ }");
        bad(1, HEAD + "if x { } else { } \u00a7else { }");
        bad(1, HEAD + "if x { \u00a7var z; }");
        bad(1, HEAD + "while x \u00a7{ }");
        bad(1, HEAD + "while x limit \u00a7{ }");
        bad(1, HEAD + "while x limit \u00a7(1) { }");
        bad(1, HEAD + "while x limit 1 \u00a7x = 1;");
        bad(1, HEAD + "while x limit 1 { } \u00a7}");
        good(HEAD + "if x { } else if y { } else { } while x limit 1 { } if 1 { if 1 { } }");
    }

    private static void expressions() {
        bad(1, HEAD + "x = \u00a7;");
        bad(1, HEAD + "x = 1 + \u00a7;");
        bad(1, HEAD + "x = 1 + \u00a7* 2;");
        bad(1, HEAD + "x = \u00a7+ 2;");
        bad(1, HEAD + "x = 1 ? 2\u00a7;");
        bad(1, HEAD + "x = 1 ? 2 : \u00a7;");
        bad(1, HEAD + "x = 1 ? 2 : 3 ? 4 : 5 \u00a7: 6;");
        bad(1, HEAD + "x = (1\u00a7;");
        bad(1, HEAD + "x = (\u00a7);");
        bad(1, HEAD + "x = (1 \u00a72);");
        bad(1, HEAD + "x = 1\u00a7);");
        bad(1, HEAD + "x = t[\u00a7];");
        bad(1, HEAD + "x = t[1\u00a7);");
        bad(1, HEAD + "x = less\u00a7;");
        bad(1, HEAD + "x = less(1\u00a7);");
        bad(1, HEAD + "x = less(1, 2\u00a7, 3);");
        bad(1, HEAD + "x = \u00a7any;");
        bad(1, HEAD + "x = -\u00a7;");
        bad(1, HEAD + "x = 1 \u00a7~ 2;");
        bad(1, HEAD + "x = 1 \u00a7! 2;");
        good(HEAD + "x = 1 ? 2 ? 3 : 4 : 5 ? 6 : 7; y = -~!- - ~x; t[t[t[x]]] = g(f(x), less(x, y)) - (y ? x : 1);");
    }

    private static void numbers() {
        bad(3, "width \u00a70;");
        bad(3, "width \u00a79;");
        bad(3, "width \u00a7999999999;");
        bad(1, "width \u00a71000000000;");
        good(HEAD + "x = 15;");
        bad(3, HEAD + "x = \u00a716;");
        bad(3, HEAD + "x = -\u00a716;");
        bad(3, "width 1; fun f(a) = \u00a72;");
        good("width 8; fun f(a) = 255;");
        bad(3, "width 8; fun f(a) = \u00a7256;");
        bad(3, HEAD + "any x : \u00a70;");
        bad(3, HEAD + "any x : \u00a75;");
        good(HEAD + "any x : 4;");
        good(HEAD + "while 0 limit 0 { } while 0 limit 50 { }");
        bad(3, HEAD + "while 0 limit \u00a751 { }");
        bad(3, HEAD + "x = \u00a7999999999");
    }

    private static void arguments() {
        bad(2, HEAD + "x = \u00a7g(1);");
        bad(2, HEAD + "x = \u00a7g(1, 2, 3);");
        bad(2, HEAD + "x = \u00a7f(1, z);");
        bad(2, HEAD + "x = f(\u00a7z, 1);");
        bad(1, HEAD + "x = f(\u00a7);");
        bad(1, HEAD + "x = g(1, \u00a7);");
        bad(1, HEAD + "x = g(1\u00a7;");
        bad(1, HEAD + "x = g(1, 2\u00a7;");
        bad(1, HEAD + "x = f(1 \u00a72);");
        bad(2, HEAD + "x = f(\u00a7g(1));");
        bad(2, HEAD + "x = \u00a7f(f(1), $);");
        bad(1, HEAD + "x = g(1 \u00a7$);");
        bad(2, "width 3; fun f(a,b,c,d,e,f1,g,h) = a; var x; x = \u00a7f(1,1,1,1,1,1,1,1,1);");
        bad(2, "width 3; fun f(a,b,c,d,e,f1,g,h) = a; var x; x = \u00a7f(1,1,1,1,1,1,1);");
        good("width 3; fun f(a,b,c,d,e,f1,g,h) = a; var x; x = f(1,1,1,1,1,1,1,1);");
    }

    private static void nesting() {
        String[][] kinds = {{"(", "(\u00a7", ")"}, {"t[", "t[\u00a7", "]"}, {"f(", "f(\u00a7", ")"},
            {"g(1,", "g(\u00a71,", ")"}, {"less(", "less(\u00a7", ",1)"}, {"less(1,", "less(\u00a71,", ")"},
            {"-", "-\u00a7", ""}, {"~", "~\u00a7", ""}, {"!", "!\u00a7", ""}, {"1?", "1?\u00a7", ":1"},
            {"1?1:", "1?\u00a71:", ""}};
        for (String[] kind : kinds) {
            String opened = Tally.times(kind[0], 50);
            String closed = Tally.times(kind[2], 50);
            good(HEAD + "x = " + opened + "y" + closed + ";");
            bad(4, HEAD + "x = " + opened + kind[1] + "y" + kind[2] + closed + ";");
            bad(1, HEAD + "x = " + opened + "\u00a7;");
        }
        good(HEAD + "x = " + Tally.times("(", 50) + "1" + Tally.times(")", 50) + ";");
        bad(4, HEAD + "x = " + Tally.times("(", 51) + "\u00a7" + "1" + Tally.times(")", 51) + ";");
        bad(4, HEAD + "x = " + Tally.times("(", 51) + "\u00a7");
        bad(4, HEAD + "x = " + Tally.times("(", 51) + "\u00a7$");
        bad(4, HEAD + "x = " + Tally.times("(", 51) + "\u00a7)");
        bad(4, HEAD + "x = " + Tally.times("(", 51) + "\u00a7z");
        bad(4, HEAD + "x = " + Tally.times("(", 51) + "\u00a7999");
        bad(4, HEAD + "x = " + Tally.times("(", 51) + "\u00a7" + Tally.times("a", 40));
        bad(4, HEAD + "x = " + Tally.times("1 ? 1 : ", 50) + "1 ? \u00a71 : 1;");
        bad(4, HEAD + "t[" + Tally.times("(", 50) + "\u00a7x" + Tally.times(")", 50) + "] = 1;");
        good(HEAD + "t[" + Tally.times("(", 49) + "x" + Tally.times(")", 49) + "] = 1;");
        bad(4, "width 3; fun f(a) = " + Tally.times("~", 51) + "\u00a7a;");
        good("width 3; fun f(a) = " + Tally.times("~", 50) + "a;");
        bad(4, HEAD + "x = " + Tally.times("(", 25) + Tally.times("-f(", 13) + "\u00a71");
        bad(1, HEAD + "x = " + Tally.times("(", 25) + Tally.times("-", 25) + "\u00a7;");
    }

    private static void blocks() {
        String open = "if 1 { ";
        good(HEAD + Tally.times(open, 50) + "x = 1;" + Tally.times("}", 50));
        good(HEAD + Tally.times(open, 51) + Tally.times("}", 51));
        bad(4, HEAD + Tally.times(open, 51) + "\u00a7x = 1;" + Tally.times("}", 51));
        bad(4, HEAD + Tally.times(open, 51) + "\u00a7" + open);
        bad(4, HEAD + Tally.times(open, 51) + "\u00a7");
        bad(4, HEAD + Tally.times(open, 51) + "\u00a7$");
        bad(4, HEAD + Tally.times(open, 50) + "x = (\u00a71);");
        bad(4, HEAD + Tally.times(open, 50) + "t[\u00a71] = 1;");
        bad(4, HEAD + Tally.times(open, 50) + "x = -\u00a71;");
        good(HEAD + Tally.times("if 1 { } else ", 50) + "{ }");
        good(HEAD + Tally.times("if 1 { } else ", 50) + "if 1 { } else { }");
        bad(4, HEAD + Tally.times("if 1 { } else ", 51) + "if \u00a71 { }");
        bad(4, HEAD + Tally.times("if 1 { } else ", 50) + "if 1 { \u00a7x = 1; }");
        bad(4, HEAD + Tally.times("if 1 { } else ", 50) + "if 1 { } else { \u00a7x = 1; }");
        good(HEAD + Tally.times("if 1 { } else ", 50) + "{ x = 1; }");
        bad(4, HEAD + Tally.times("if 1 { } else ", 50) + "{ if 1 { \u00a7x = 1; } }");
        String loop = "while x limit 0 { ";
        good(HEAD + Tally.times(loop, 30) + Tally.times(open, 20) + "x = 1;" + Tally.times("}", 50));
    }

    private static void amounts() {
        StringBuilder variables = new StringBuilder("width 1; ");
        for (int i = 0; i < 198; i++) {
            variables.append("var v").append(i).append(";");
        }
        good(variables + "fun f(a) = a;");
        bad(4, variables + "fun f(a, \u00a7b) = a;");
        bad(2, variables + "fun f(a, \u00a7a) = a;");
        bad(4, variables + "fun f(a) = a; var \u00a7a;");
        bad(2, variables + "fun f(a) = a; var \u00a7f;");
        bad(4, variables + "fun f(a) = a; fun \u00a7g(a) = a;");
        bad(1, variables + "fun f(a) = a; var \u00a7var;");
        String checks = "width 1; var x; var t[2]; " + Tally.times("assert 1; t[0] = 1; while 0 limit 0 { } ", 10);
        good(checks + "assume 1; x = t[1];");
        bad(4, checks + "\u00a7assert 1;");
        bad(4, checks + "\u00a7while 0 limit 0 { }");
        bad(4, checks + "\u00a7t[0] = 1;");
        bad(4, checks + "\u00a7t = 1;");
        bad(4, checks + "if 1 { x = 1; \u00a7assert");
        String start = "width 1;var x;while 0 limit 0{";
        String filled = start + Tally.times("x=1;", 1997);
        good(filled + "}");
        bad(4, filled + "}\u00a7x");
        bad(4, filled + "}\u00a7$");
        bad(4, filled + "}\u00a7" + Tally.times("9", 12));
        bad(1, filled + "x\u00a7");
        good(filled + "}  # x");
        bad(1, filled + "\u00a7$");
    }

    private static void atTheEnd() {
        depths();
        costs();
        bits();
    }

    private static void depths() {
        String tildes = Tally.times("~", 49);
        String chain = "width 1; var x; var t[1]; fun f0(a) = " + tildes.substring(1) + "a; fun f1(a) = " + tildes
            + "f0(a); fun f2(a) = " + tildes + "f1(a); fun f3(a) = ";
        String full = chain + tildes + "f2(a); ";
        String less = chain + tildes.substring(1) + "f2(a); ";
        good(full + "fun f4(a) = f3(a);");
        bad(4, full + "fun f4(a) = ~f3(a);\u00a7");
        bad(4, full + "fun f4(a) = f3(a); fun f5(a) = f4(a); # \u00a7");
        good(full + "x = f3(x) + x + x;");
        bad(4, full + "x = x + f3(x);\u00a7");
        good(less + "x = x + f3(x);");
        good(less + "x = x + (((f3(x))));");
        bad(4, less + "x = x + x * f3(x);\u00a7");
        good(less + "x = x * f3(x) + x;");
        good(less + "x = f3(x) ? 1 : 0; x = less(1, f3(x)); x = f3(f0(x));");
        bad(4, less + "x = f3(x) ? 1 : 0 ? 1 : f3(0);\u00a7");
        bad(4, less + "x = less(1, ~f3(x));\u00a7");
        good(less + "x = t[f3(x)]; t[~f3(x)] = ~f3(x);");
        bad(4, less + "x = ~t[f3(x)];\u00a7");
        bad(4, less + "t[t[~f3(x)]] = 1;\u00a7");
        bad(4, less + "x = f0(~f3(x));\u00a7");
        bad(4, less + "if !!f3(x) { }\u00a7");
        bad(4, less + "while - -f3(x) limit 1 { }\u00a7");
        good("width 1; var x; x = x" + Tally.times("+x", 300) + ";");
    }

    private static void costs() {
        String head = "width 1; var x; ";
        TALLY.due("costs of many", 1996 * 12 + 11, Tally.reading(head + Tally.times("x=1;", 1996) + "if 1{}").count(4));
        bad(4, head + "while x limit 50 { while x limit 50 { x = 1; } }\u00a7");
        bad(4, head + Tally.times("while x limit 50 { ", 30) + Tally.times("}", 30) + " # \u00a7");
        good(head + "while x limit 0 { " + Tally.times("while x limit 50 { ", 20) + Tally.times("}", 20) + " }");
        StringBuilder text = new StringBuilder("width 8; var x; fun f0(a) = a * a * a; ");
        for (int i = 1; i < 60; i++) {
            text.append("fun f" + i + "(a) = f" + (i - 1) + "(a) + f" + (i - 1) + "(a); ");
        }
        good(text.toString());
        good(text + "while x limit 0 { x = f59(1); }");
        bad(4, text + "x = f59(1);\u00a7");
        exactCosts();
    }

    /** 30,000 and one more, the last of it by FUNCTIONS, which cost 1. */
    private static void exactCosts() {
        String head = "width 1; var x; fun f(a) = a; while x limit 40 { while x limit 40 { x = x; } } ";
        int soFar = 8 + 41 * 3 + 40 * (8 + 41 * 3 + 40 * 12);
        TALLY.due("costs of rounds", soFar, Tally.reading(head).count(4));
        int settings = (30000 - soFar) / 12;
        int calls = (30000 - soFar) % 12;
        String text = head + Tally.times("x = x; ", settings - 1) + "x = " + Tally.times("f(", calls);
        String rest = "x" + Tally.times(")", calls) + ";";
        TALLY.due("costs of 30,000", 30000, Tally.reading(text + rest).count(4));
        bad(4, text + "f(" + rest.replace("x", "x)") + "\u00a7");
    }

    private static void bits() {
        String head = "width 4; var x; ";
        good(head + Tally.times("any x : 4; ", 3));
        bad(4, head + Tally.times("any x : 4; ", 3) + "any x : 1;\u00a7");
        good(head + "while x limit 12 { any x : 1; }");
        bad(4, head + "while x limit 13 { any x : 1; }\u00a7");
        good(head + "while x limit 0 { " + Tally.times("any x : 4; ", 9) + "}");
        bad(4, head + "if x { any x : 4; any x : 3; } else { any x : 4; any x : 2; }\u00a7");
        bad(4, head + "while 0 limit 4 { while 0 limit 4 { any x : 1; } }\n\u00a7");
    }
}
