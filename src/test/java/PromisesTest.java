/** Each promise by itself: ordinary calls, the edges that the document names, and wrong ones. */
public final class PromisesTest {
    private static final Tally TALLY = new Tally("PromisesTest");

    public static void main(String[] args) {
        newObject(new RunProver(), "new");
        feed();
        end();
        read();
        fault();
        prove();
        breaks();
        reaches();
        reachesInRounds();
        ends();
        check();
        inputAndPut();
        run();
        value();
        doubts();
        count();
        TALLY.close();
    }

    /** Promise 1, and what is left behind a FAULT by promise 4: no TEXT. */
    private static void newObject(RunProver x, String name) {
        for (int what = 0; what <= 6; what++) {
            TALLY.due(name + " count " + what, 0, x.count(what));
        }
        TALLY.due(name + " prove", -1, x.prove());
        TALLY.due(name + " run", -3, x.run());
        TALLY.due(name + " doubts", 0, x.doubts());
        TALLY.thrown(name + " breaks", 1, () -> x.breaks(0));
        TALLY.thrown(name + " reaches", 1, () -> x.reaches(0));
        TALLY.thrown(name + " ends", 1, () -> x.ends(0, 0, 0));
        TALLY.thrown(name + " check", 1, () -> x.check(0, 0));
        TALLY.thrown(name + " check", 1, () -> x.check(0, 5));
        TALLY.thrown(name + " input", 1, () -> x.input(0));
        TALLY.thrown(name + " put", 1, () -> x.put(0, 0));
        TALLY.thrown(name + " put", 1, () -> x.put(0, -1));
        TALLY.thrown(name + " value", 1, () -> x.value(0, 0));
        TALLY.due(name + " prove leaves no doubt", 0, x.doubts());
    }

    /** Promise 2. */
    private static void feed() {
        RunProver x = new RunProver();
        // "width 3;" and blanks behind it: the highest byte of each number comes first
        TALLY.due("feed", 20, x.feed(0x77696474, 0x6820333b, 0x20202020, 0x20202020, 0x20202020));
        TALLY.due("feed", 40, x.feed(0x76617220, 0x783b2023, 0xffffffff, 0x80000000, 0x7f0aff23));
        TALLY.due("read of what was fed, a byte that is none", -1, x.read());
        TALLY.due("its fault", 1, x.fault(0));
        TALLY.due("its place", 38, x.fault(1));
        for (int i = 1; i <= 3276; i++) {
            TALLY.due("feed " + i, 20 * i, x.feed(i, i, i, i, i));
        }
        TALLY.thrown("feed without room", 3, () -> x.feed(0, 0, 0, 0, 0));
        TALLY.due("nothing came", 65520, x.count(5));
        TALLY.due("end", 65517, x.end(65517));
        TALLY.thrown("feed without room for the last byte", 3, () -> x.feed(0, 0, 0, 0, 0));
        TALLY.due("end", 65516, x.end(65516));
        TALLY.due("feed to the last byte", 65536, x.feed(1, 2, 3, 4, 5));
        TALLY.thrown("feed of a full tape", 3, () -> x.feed(0, 0, 0, 0, 0));
        TALLY.due("read of a full tape", -1, x.read());
        TALLY.due("feed again", 20, x.feed(0, 0, 0, 0, 0));
        char[] lasts = {'7', 'a', '<', '\u00ff', '#', ' '};
        int[] faults = {1, 2, 1, 1, 0, 0};
        for (int k = 0; k < lasts.length; k++) {
            RunProver full = new RunProver();
            Tally.give(full, "width 3;" + Tally.times(" ", 65516 - 8));
            full.feed(0x20202020, 0x20202020, 0x20202020, 0x20202020, 0x20202000 | lasts[k]);
            TALLY.due("all is full", 65536, full.count(5));
            full.read();
            TALLY.due("fault at the last byte", faults[k], full.fault(0));
            TALLY.due("its place", faults[k] == 0 ? 0 : 65535, full.fault(1));
        }
    }

    /** Promise 3. */
    private static void end() {
        RunProver x = new RunProver();
        TALLY.due("end of nothing", 0, x.end(0));
        TALLY.thrown("end 1 of nothing", 2, () -> x.end(1));
        Tally.give(x, "width 3; var x; assert 0; $");
        TALLY.thrown("end -1", 2, () -> x.end(-1));
        TALLY.thrown("end beyond", 2, () -> x.end(28));
        TALLY.thrown("end far beyond", 2, () -> x.end(Integer.MAX_VALUE));
        TALLY.thrown("end far before", 2, () -> x.end(Integer.MIN_VALUE));
        TALLY.due("all stays", 27, x.end(27));
        TALLY.due("less stays", 25, x.end(25));
        TALLY.due("the length", 25, x.count(5));
        Tally.give(x, "assert 1;");
        TALLY.due("the length", 34, x.count(5));
        TALLY.due("what came behind", 2, x.read());
    }

    /** Promise 4. */
    private static void read() {
        RunProver x = Tally.reading("width 3; var x; any x : 2; assert x != 2;");
        TALLY.due("the tape is empty then", 0, x.count(5));
        TALLY.due("prove", 0, x.prove());
        TALLY.due("input", 2, x.input(0));
        Tally.give(x, "width 3; var x; any x : 2; any x : 2; assert 1; assert 1;");
        TALLY.due("prove before the read", 0, x.prove());
        TALLY.due("read", 2, x.read());
        TALLY.due("inputs are 0", 0, x.input(0) + x.input(1));
        TALLY.due("no check breaks", -1, x.prove());
        TALLY.due("read of nothing", -1, x.read());
        newObject(x, "behind a fault");
        TALLY.due("fault", 1, x.fault(0));
        Tally.give(x, "width 5; var x; any x : 5; assert x == 0;");
        TALLY.due("read again", 1, x.read());
        TALLY.due("prove", 0, x.prove());
        Tally.give(x, "width 5; var x; x = 32;");
        TALLY.due("read of a fault", -1, x.read());
        newObject(x, "behind another fault");
    }

    /** Promise 5. */
    private static void fault() {
        RunProver x = new RunProver();
        TALLY.due("fault before", 0, x.fault(0));
        TALLY.due("place before", 0, x.fault(1));
        TALLY.due("fault 2", -1, x.fault(2));
        TALLY.due("fault -1", -1, x.fault(-1));
        Tally.give(x, "width 3; var x; y = 1;");
        TALLY.due("read", -1, x.read());
        TALLY.due("fault", 2, x.fault(0));
        TALLY.due("place", 16, x.fault(1));
        TALLY.due("fault 2", -1, x.fault(2));
        Tally.give(x, "width 3;");
        TALLY.due("fault stays until the read", 2, x.fault(0));
        TALLY.due("read", 0, x.read());
        TALLY.due("no fault", 0, x.fault(0));
        TALLY.due("no place", 0, x.fault(1));
    }

    /** Promise 6. */
    private static void prove() {
        RunProver x = Tally.reading("width 4; var a; var b; any a : 3; any b : 4; assume a > 1;"
            + " assert b != 9 || a < 5; assert a + b != 11; ");
        x.put(0, 7);
        TALLY.due("the least break one, not the first check", 1, x.prove());
        TALLY.due("the first input", 2, x.input(0));
        TALLY.due("the second input", 9, x.input(1));
        x = Tally.reading("width 4; var a; any a : 4; assert a < 15 || a == 15;");
        x.put(0, 6);
        TALLY.due("none breaks", -1, x.prove());
        TALLY.due("inputs stay", 6, x.input(0));
        TALLY.due("no check at all", -1, Tally.reading("width 2; var x; any x : 2;").prove());
        TALLY.due("no input at all", 0, Tally.reading("width 2; assert 0;").prove());
        x = Tally.reading("width 2; var x; var t[2]; any x : 2; t[x] = 1; while x limit 0 { }");
        TALLY.due("a while that goes on", 1, x.prove());
        TALLY.due("by", 1, x.input(0));
        x.breaks(0);
        TALLY.due("an element that is not there", 2, x.input(0));
    }

    /** Promise 7. */
    private static void breaks() {
        RunProver x = Tally.reading("width 3; var a; any a : 3; assert a != 5; assert a < 5; assert a != 5;");
        x.put(0, 4);
        TALLY.due("the first", 1, x.breaks(0));
        TALLY.due("its input", 5, x.input(0));
        TALLY.due("the second, as the first lets 5 not through", 1, x.breaks(1));
        TALLY.due("its input", 6, x.input(0));
        TALLY.due("the third never", 0, x.breaks(2));
        TALLY.due("the input stays", 6, x.input(0));
        RunProver y = x;
        TALLY.thrown("check -1", 1, () -> y.breaks(-1));
        TALLY.thrown("check 3", 1, () -> y.breaks(3));
        x = Tally.reading("width 3; var t[8]; var u[7]; var a; any a : 3; t[a] = 1; u[a] = 1;");
        TALLY.due("every index is there", 0, x.breaks(0));
        TALLY.due("one is not", 1, x.breaks(1));
        TALLY.due("namely", 7, x.input(0));
        x = Tally.reading("width 3; var a; var i; any a : 3; while i < a limit 5 { i = i + 1; }"
            + " while 0 limit 0 { assert 0; }");
        TALLY.due("a sixth round", 1, x.breaks(0));
        TALLY.due("from", 6, x.input(0));
        TALLY.due("limit 0 that does not go on", 0, x.breaks(1));
        TALLY.due("a check that is not unrolled", 0, x.breaks(2));
    }

    /** Promise 8. */
    private static void reaches() {
        RunProver x = Tally.reading("width 3; var a; var t[2]; any a : 3; if a > 3 { assert a; } "
            + "if a == 6 { t[a] = 0; } else { assume a != 0; assert 1; } assume 0; assert 1;");
        x.put(0, 7);
        TALLY.due("an assert that holds", 1, x.reaches(0));
        TALLY.due("from", 4, x.input(0));
        TALLY.due("a statement of an array that breaks", 1, x.reaches(1));
        TALLY.due("from", 6, x.input(0));
        TALLY.due("behind an assume", 1, x.reaches(2));
        TALLY.due("from", 1, x.input(0));
        TALLY.due("behind what stops all", 0, x.reaches(3));
        TALLY.due("inputs stay", 1, x.input(0));
        RunProver y = x;
        TALLY.thrown("check -1", 1, () -> y.reaches(-1));
        TALLY.thrown("check 4", 1, () -> y.reaches(4));
    }

    private static void reachesInRounds() {
        RunProver x = Tally.reading("width 3; var a; var i; any a : 3; while i < a limit 5 { assert i != 2; i = i + 1; }"
            + " while a limit 0 { assert 1; }");
        TALLY.due("behind the last round never, as one before breaks", 0, x.reaches(0));
        TALLY.due("a round's check", 1, x.reaches(1));
        TALLY.due("from", 1, x.input(0));
        TALLY.due("limit 0 at once", 1, x.reaches(2));
        TALLY.due("from", 0, x.input(0));
        TALLY.due("what is not unrolled", 0, x.reaches(3));
        x = Tally.reading("width 3; var a; var i; any a : 3; while i < a limit 5 { i = i + 1; }");
        TALLY.due("behind the last round, where it holds", 1, x.reaches(0));
        TALLY.due("from", 5, x.input(0));
    }

    /** Promise 9. */
    private static void ends() {
        RunProver x = Tally.reading("width 3; var a; var b; fun f(p) = p; var t[2]; any a : 2; b = a + 5;"
            + " assume a != 1; assert a != 2; t[1] = a + a;");
        TALLY.due("b = 0", 1, x.ends(1, 0, 0));
        TALLY.due("from", 3, x.input(0));
        TALLY.due("b = 5", 1, x.ends(1, 0, 5));
        TALLY.due("from", 0, x.input(0));
        TALLY.due("stopped before", 0, x.ends(1, 0, 6));
        TALLY.due("broken off before", 0, x.ends(1, 0, 7));
        TALLY.due("inputs stay", 0, x.input(0));
        TALLY.due("an element", 1, x.ends(2, 1, 6));
        TALLY.due("from", 3, x.input(0));
        TALLY.due("another element", 0, x.ends(2, 0, 6));
        TALLY.thrown("name -1", 1, () -> x.ends(-1, 0, 0));
        TALLY.thrown("name 3, as a function is none", 1, () -> x.ends(3, 0, 0));
        TALLY.thrown("element 1 of a variable", 1, () -> x.ends(0, 1, 0));
        TALLY.thrown("element -1", 1, () -> x.ends(2, -1, 0));
        TALLY.thrown("element 2 of two", 1, () -> x.ends(2, 2, 0));
        TALLY.thrown("value -1", 1, () -> x.ends(0, 0, -1));
        TALLY.thrown("value 8", 1, () -> x.ends(0, 0, 8));
        TALLY.due("value 7", 0, x.ends(0, 0, 7));
    }

    /** Promise 10. */
    private static void check() {
        RunProver x = Tally.reading("width 3; var t[2];\n while t[0] limit 2 { t [ 0 ] = 1; # t[1] = 1;\n assert t[1]; }");
        TALLY.due("kind 0", 3, x.check(0, 0));
        TALLY.due("place 0", 20, x.check(0, 1));
        TALLY.due("kind 1", 2, x.check(1, 0));
        TALLY.due("place 1", 41, x.check(1, 1));
        TALLY.due("kind 2", 1, x.check(2, 0));
        TALLY.due("place 2", 67, x.check(2, 1));
        TALLY.thrown("check 3", 1, () -> x.check(3, 0));
        TALLY.thrown("check -1", 1, () -> x.check(-1, 1));
        TALLY.thrown("what 2", 2, () -> x.check(0, 2));
        TALLY.thrown("what -1", 2, () -> x.check(2, -1));
        TALLY.thrown("neither", 1, () -> x.check(3, 2));
    }

    /** Promises 11 and 12. */
    private static void inputAndPut() {
        RunProver x = Tally.reading("width 8; var a; var b; any a : 8; if a { any b : 1; } else { any a : 3; }");
        TALLY.due("put", 0, x.put(0, 255));
        TALLY.due("put again", 255, x.put(0, 254));
        TALLY.due("input 0", 254, x.input(0));
        TALLY.due("put", 0, x.put(1, 1));
        TALLY.due("put", 0, x.put(2, 7));
        TALLY.thrown("256 in 8 bits", 2, () -> x.put(0, 256));
        TALLY.thrown("2 in 1 bit", 2, () -> x.put(1, 2));
        TALLY.thrown("8 in 3 bits", 2, () -> x.put(2, 8));
        TALLY.thrown("-1", 2, () -> x.put(2, -1));
        TALLY.thrown("least of all", 2, () -> x.put(2, Integer.MIN_VALUE));
        TALLY.thrown("input 3", 1, () -> x.input(3));
        TALLY.thrown("input -1", 1, () -> x.input(-1));
        TALLY.thrown("put 3", 1, () -> x.put(3, 0));
        TALLY.thrown("put -1", 1, () -> x.put(-1, 0));
        TALLY.thrown("put 3 of what fits nowhere", 1, () -> x.put(3, -1));
        TALLY.due("nothing was put", 254 + 1 + 7, x.input(0) + x.input(1) + x.input(2));
        TALLY.due("the run takes the one it comes to", 1, x.value(1, 0));
        x.put(0, 0);
        TALLY.due("and here the other", 7, x.value(0, 0));
    }

    /** Promise 13. */
    private static void run() {
        RunProver x = Tally.reading("width 2; var a; any a : 2; assume a != 1; assert a != 2; assert a != 3;");
        int[] due = {-1, -2, 0, 1};
        for (int a = 0; a < 4; a++) {
            x.put(0, a);
            TALLY.due("run with " + a, due[a], x.run());
        }
        TALLY.due("nothing to run", -1, Tally.reading("width 2;").run());
        TALLY.due("stopped before a break", -2, Tally.reading("width 2; assume 0; assert 0;").run());
        TALLY.due("broken off before a stop", 0, Tally.reading("width 2; assert 0; assume 0;").run());
        TALLY.due("an inner while", 1, Tally.reading("width 2; while 1 limit 1 { while 1 limit 1 { } }").run());
    }

    /** Promise 14. */
    private static void value() {
        RunProver x = Tally.reading("width 3; var a; var t[3]; var b; any a : 3; b = 1; t[a] = 5; b = 2;"
            + " assume a != 1; b = 3; while a == 2 limit 1 { b = b + 1; } a = 6;");
        int[][] due = {{6, 5, 0, 0, 3}, {1, 0, 5, 0, 2}, {2, 0, 0, 5, 4}, {3, 0, 0, 0, 1}};
        for (int a = 0; a < 4; a++) {
            x.put(0, a);
            TALLY.due("a with " + a, due[a][0], x.value(0, 0));
            for (int e = 0; e < 3; e++) {
                TALLY.due("t " + e + " with " + a, due[a][1 + e], x.value(1, e));
            }
            TALLY.due("b with " + a, due[a][4], x.value(2, 0));
        }
        TALLY.thrown("name -1", 1, () -> x.value(-1, 0));
        TALLY.thrown("name 3", 1, () -> x.value(3, 0));
        TALLY.thrown("element -1", 1, () -> x.value(1, -1));
        TALLY.thrown("element 3", 1, () -> x.value(1, 3));
        TALLY.thrown("element 1 of a variable", 1, () -> x.value(0, 1));
    }

    /** Promise 15. */
    private static void doubts() {
        RunProver x = Tally.reading("width 4; var a; var b; any a : 4; any b : 4; assert a * b == b * a; assert a / b >= 0; assert 1;");
        TALLY.due("none so far", 0, x.doubts());
        TALLY.due("prove", -1, x.prove());
        for (int c = 0; c < 3; c++) {
            TALLY.due("breaks", 0, x.breaks(c));
            TALLY.due("reaches", 1, x.reaches(c));
        }
        TALLY.due("ends", 1, x.ends(0, 0, 3));
        TALLY.due("every refutation was accepted", 0, x.doubts());
        x = Tally.reading("width 1;");
        TALLY.due("nothing to break", -1, x.prove());
        TALLY.due("that has a refutation too", 0, x.doubts());
        x = Tally.reading("width 1; var x; assert 0;");
        TALLY.due("never at the end", 0, x.ends(0, 0, 0));
        TALLY.due("breaks at once", 1, x.breaks(0));
        TALLY.due("no doubt", 0, x.doubts());
    }

    /** Promise 16. */
    private static void count() {
        RunProver x = Tally.reading("width 5; var a; var t[3]; fun f(p) = p; any a : 2; while a limit 2 { any a : 3; } assert t[0];");
        int[] due = {2, 3, 8, 2, 8 + 20 + 8 + 3 * 15 + 2 * 28 + 8 + 15 + 135, 0, 5};
        for (int what = 0; what < due.length; what++) {
            TALLY.due("count " + what, due[what], x.count(what));
        }
        TALLY.due("count 7", -1, x.count(7));
        TALLY.due("count -1", -1, x.count(-1));
        x.feed(0, 0, 0, 0, 0);
        TALLY.due("the tape's length", 20, x.count(5));
        String head = "width 3; var x; var t[2]; fun f(p) = p; fun g(p) = f(p) + f(f(p)); ";
        String[] parts = {"x = 1;", "20", "x = (x);", "20", "x = ~x;", "20", "x = -x;", "56", "x = !x;", "29",
            "x = x & x | x ^ x;", "47", "x = x && x || x;", "38", "x = x == x != x;", "44",
            "x = x < x <= x > x >= x;", "164", "x = less(x, x);", "56", "x = x + x - x;", "92",
            "x = x << x >> x;", "116", "x = x * x;", "164", "x = x / x % x;", "452", "x = x ? x : x;", "35",
            "x = t[x];", "74", "x = f(x);", "21", "x = g(!x);", "69", "t[!x] = -x;", "107", "any x : 1;", "20",
            "assume !x;", "26", "assert !x;", "26", "if !x { x = x; } else { x = x; x = x; }", "86",
            "if !x { } else if x { x = x; }", "63", "while !x limit 3 { x = x; }", "140", "while !x limit 0 { x = x; }", "26",
            "while x limit 2 { while x limit 2 { x = x; } }", "185"};
        for (int p = 0; p < parts.length; p += 2) {
            TALLY.due("costs of " + parts[p], Integer.parseInt(parts[p + 1]), Tally.reading(head + parts[p]).count(4));
        }
    }
}
