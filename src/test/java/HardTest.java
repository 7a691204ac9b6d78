import java.lang.reflect.Field;

/** Promises 6 to 9 and 15 on texts that take much search, or much room. */
public final class HardTest {
    private static final Tally TALLY = new Tally("HardTest");

    public static void main(String[] args) throws ReflectiveOperationException {
        identities();
        programs();
        deepest();
        largest();
        TALLY.close();
    }

    private static void compare(String name, String text) {
        Model model = new Model(text);
        TALLY.due(name + " is right", 0, model.fault);
        new Comparison(TALLY, name, text, new RunProver()).all();
    }

    private static void identities() {
        String two = "width 6; var a; var b; any a : 6; any b : 6; ";
        compare("turned factors", two + "assert a * b == b * a;");
        compare("division", two + "assert a / b * b + a % b == a || b == 0; assert b == 0 || a % b < b;");
        compare("square", two + "assert (a + b) * (a + b) == a * a + 2 * a * b + b * b;");
        compare("no square", two + "assert a * a * 4 % 8 != 3 + b * b * 4 % 8;");
        compare("shifts", two + "assert b >= 6 || a << b >> b == (a & (63 >> b));");
        compare("exclusive or", two + "assert (a ^ b) == (a | b) - (a & b); assert a + b == (a ^ b) + ((a & b) << 1);");
        compare("least of two", "width 5; var a; var b; fun min(p, q) = p < q ? p : q;"
            + " any a : 5; any b : 5; assert min(a, b) == min(b, a); assert min(a, b) <= a; assert min(a, b) < a;");
        compare("sign", "width 4; var a; var b; any a : 4; any b : 4;"
            + " assert less(a, b) == ((a ^ 8) < (b ^ 8)); assert less(a, 0) == a >> 3; assert !less(a - b, 0) || less(a, b);");
        compare("factors", "width 8; var a; var b; any a : 6; any b : 6; assume a > 1 && b > 1; assume a < 16 && b < 16; assert a * b != 143; assert a * b != 139;");
    }

    private static void programs() {
        compare("greatest divisor", "width 5; var x; var y; var a; var b; any a : 5; any b : 5; x = a; y = b;"
            + " assume a != 0 && b != 0; while x != y limit 30 { if x > y { x = x - y; } else { y = y - x; } }"
            + " assert a % x == 0; assert b % x == 0; assert x < 31;");
        compare("sum", "width 8; var i; var s; var n; any n : 4; while i < n limit 15 { i = i + 1; s = s + i; }"
            + " assert s == n * (n + 1) / 2; assert s < 120;");
        compare("sorted", "width 3; var t[4]; var i; var j; var h; any h : 3; t[0] = h; any h : 3; t[1] = h;"
            + " any h : 3; t[2] = h; any h : 3; t[3] = h; while i < 3 limit 3 { j = 0; while j < 3 limit 3 {"
            + " if t[j] > t[j + 1] { h = t[j]; t[j] = t[j + 1]; t[j + 1] = h; } j = j + 1; } i = i + 1; }"
            + " assert t[0] <= t[1] && t[1] <= t[2] && t[2] <= t[3]; assert t[0] + t[3] != 7;");
        compare("inputs in rounds", "width 4; var s; var x; var k; while k < 6 limit 6 { any x : 2;"
            + " if x == 3 { s = s + x; } else if x == 2 { s = s - 1; } else { assume s < 12; } k = k + 1; }"
            + " assert s != 11; assert s != 15;");
        compare("bits", "width 8; var x; var c; var n; any x : 8; any n : 3; while x >> c limit 8 { c = c + 1; }"
            + " assert c <= 8; assert x < 1 << n || c > n; assert c != n;");
    }

    /** As much of everything as the document allows: nesting, INPUTS, CHECKS, NAMES. */
    private static void deepest() {
        String head = "width 3; var x; var y; any x : 3; ";
        compare("blocks", head + Tally.times("if x > 2 { ", 50) + "y = x; assert x != 5;" + Tally.times("}", 50));
        compare("else if", head + Tally.times("if x == 4 { y = 1; } else ", 50)
            + "{ y = x; assert x != 5; } assert y != 7;");
        compare("rounds in rounds", head + Tally.times("if 1 { ", 22)
            + Tally.times("while x > 2 limit 1 { ", 28) + "y = x; x = 0;" + Tally.times("}", 50));
        compare("brackets", head + "y = " + Tally.times("(x + ", 50) + "1" + Tally.times(")", 50) + "; assert y != 5;");
        compare("twelve inputs", "width 2; var x; var s; while x != 3 limit 12 { any x : 1; s = s * 2 + x; x = x & s; }"
            + " assert s != 2;");
        StringBuilder text = new StringBuilder("width 5; var x; any x : 5; ");
        for (int c = 0; c < 30; c++) {
            text.append("assert x != " + (31 - c) + "; ");
        }
        compare("thirty checks", text.toString());
        text = new StringBuilder("width 2; ");
        for (int n = 0; n < 200; n++) {
            text.append("var v" + n + (n % 2 == 0 ? "[16]; " : "; "));
        }
        compare("two hundred names", text + "any v1 : 2; v0[v1] = 3; v198[3] = v0[2]; v199 = v198[v1]; assert v199 != 3;");
    }

    /** That the search does take its second way there, with clauses of decisions alone. */
    private static void shortOfRoom(String text) throws ReflectiveOperationException {
        RunProver prover = Tally.reading(text);
        TALLY.due("none breaks", -1, prover.prove());
        TALLY.due("no doubt", 0, prover.doubts());
        Field search = RunProver.class.getDeclaredField("search");
        search.setAccessible(true);
        Field second = RunProver.Search.class.getDeclaredField("decisionsAlone");
        second.setAccessible(true);
        TALLY.due("decisions alone", 1, second.getBoolean(search.get(prover)) ? 1 : 0);
    }

    private static void largest() throws ReflectiveOperationException {
        StringBuilder text = new StringBuilder("width 8; var a; var b; var q; any a : 6; any b : 6; a = a * 5; ");
        for (int i = 0; i < 6; i++) {
            text.append("q = a / (b + 1); assert q * (b + 1) + a % (b + 1) == a; a = a + 37; ");
        }
        compare("many divisions", text.toString());
        shortOfRoom(text.toString());
        compare("rests", "width 8; var h; var x; var y; var i; any x : 6; any y : 6; h = x;"
            + " while i < 9 limit 9 { h = (h * 13 + y) % (x + 3) + i; i = i + 1; } assert h < 90; assert h != 255;");
        text = new StringBuilder("width 1; var x; var y; any x : 1; any y : 1; ");
        for (int i = 0; i < 3; i++) {
            text.append("while x limit 50 { while y limit 50 { } }");
        }
        compare("many rounds", text.toString());
        text = new StringBuilder("width 1; var x; any x : 1; ");
        text.append("while x limit 50 { while x limit 50 { } while x limit 50 { } while x limit 50 { } }");
        compare("rounds that change nothing", text.toString());
        mostGates();
        manyCircuits();
        text = new StringBuilder("width 8; var t[16]; var i; var x; any x : 8; any i : 4; ");
        for (int i = 0; i < 10; i++) {
            text.append("t[i] = t[i + 3] + x; i = i + 5 & 15; ");
        }
        compare("array", text.append("assert t[x & 15] != x * 2;").toString());
        compare("calls", calls());
        compare("waiting arguments", waitingArguments());
        TALLY.due("no deeper", 4, new Model(waitingArguments().replace("f4(x)", "~f4(x)")).fault);
    }

    /** Rounds without anything in them, of one bit: nothing makes more gates and clauses for its COSTS. */
    private static void mostGates() throws ReflectiveOperationException {
        StringBuilder text = new StringBuilder("width 1; var x; var y; var z; var u;"
            + " any x : 1; any y : 1; any z : 1; any u : 1; while x limit 50 {"
            + " while y limit 50 { } while z limit 50 { } while u limit 50 { } x = x ^ y; y = u; z = x; u = z; } ");
        for (int i = 0; i < 19; i++) {
            text.append("while ").append("xyzu".charAt(i % 4)).append(" limit 50 { } ");
        }
        compare("most gates", text.toString());
        RunProver prover = Tally.reading(text.toString());
        TALLY.due("costs of most gates", 29968, prover.count(4));
        Field gates = RunProver.class.getDeclaredField("gates");
        gates.setAccessible(true);
        int made = ((RunProver.Gates) gates.get(prover)).size;
        TALLY.due("as many gates as that: " + made, 1, made > 26000 && made < RunProver.Gates.MOST ? 1 : 0);
    }

    /** One object, ten times: so many circuits would not fit beside each other. */
    private static void manyCircuits() {
        String text = "width 8; var x; var y; var z; fun f(a, b, c) = a ? b : c; fun g(a, b, c) = f(f(a, b, c), f(b, c, a), f(c, a, b));"
            + " any x : 4; any y : 4; any z : 4; x = x * 13; y = y * 11; z = z * 7;"
            + " while 1 limit 25 { x = g(x, y, z + 1); y = g(y, z, x ^ 5); z = g(z, x, y - 3); }";
        Model model = new Model(text);
        TALLY.due("many circuits are right", 0, model.fault);
        RunProver prover = new RunProver();
        for (int k = 0; k < 10; k++) {
            Tally.give(prover, text);
            TALLY.due("read " + k, 1, prover.read());
            int[] with = {3 + k, 15 - k, 5};
            for (int i = 0; i < 3; i++) {
                prover.put(i, with[i]);
            }
            model.run(with);
            for (int n = 0; n < 3; n++) {
                TALLY.due("value " + n + " of circuit " + k, model.held(n, 0), prover.value(n, 0));
            }
        }
    }

    /** A DEPTH of 200, and seven arguments that wait at almost every step of it. */
    private static String waitingArguments() {
        StringBuilder text = new StringBuilder("width 2; var x; fun f0(a, b, c, d, e, f, g, h) = h ^ b; ");
        for (int i = 1; i <= 4; i++) {
            int steps = i == 1 ? 47 : 49;
            String inner = i == 1 ? "p" : "f" + (i - 1) + "(p)";
            text.append("fun f").append(i).append("(p) = ").append(Tally.times("f0(p,~p,1,p,2,p,3,", steps))
                .append(inner).append(Tally.times(")", steps)).append("; ");
        }
        return text.append("any x : 2; x = f4(x); assert x != 2;").toString();
    }

    /** FUNCTIONS that cost next to nothing, called as often as COSTS allow. */
    private static String calls() {
        StringBuilder text = new StringBuilder("width 2; var x; fun f0(a, b, c, d, e, f, g, h) = "
            + Tally.times("~", 50) + "a; ");
        String call = "p";
        for (int i = 0; i < 24; i++) {
            call = "f0(" + call + Tally.times(",~~~~~~~~~~p", 7) + ")";
        }
        text.append("fun f1(p) = ").append(call).append("; fun f2(p) = ");
        text.append(Tally.times("f1(", 30)).append("p").append(Tally.times(")", 30)).append("; ");
        text.append("any x : 2; while x != 1 limit 5 { x = f2(x); x = ~f2(x + 1); x = f2(f2(x)); x = f2(f2(f2(x))); assert x != 3; }");
        return text.toString();
    }
}
