import java.util.ArrayList;
import java.util.List;

/** Promises 6 to 16 at their edges: the first and the last that there is, and what is refused. */
public final class CallEdgesTest {
    private static final Tally TALLY = new Tally("CallEdgesTest");
    private static final int LEAST = Integer.MIN_VALUE;
    private static final int GREATEST = Integer.MAX_VALUE;
    private static final String TEXT = "width 3; var a; var t[3]; fun f(p) = p + 1; var b; any a : 3; any b : 2;"
        + " assert a != 6; t[b] = a; while a > 4 limit 1 { a = f(a) - 2; }";

    public static void main(String[] args) {
        prove();
        proveWithNothingToBreak();
        breaks();
        reaches();
        reachesTheElementAndTheLastRound();
        ends();
        endsOfEveryValue();
        check();
        input();
        put();
        run();
        value();
        doubts();
        count();
        refusedCallsChangeNothing();
        answersOfNoneChangeNothing();
        questionsOneBehindTheOther();
        TALLY.close();
    }

    /** Promise 6: the least that BREAKS a CHECK, and that CHECK's number; else -1, and INPUTS stay. */
    private static void prove() {
        RunProver x = Tally.reading("width 3; var a; any a : 3; assert a != 7; assert a != 6; assert a != 0;");
        TALLY.due("all 0 is the least of all", 2, x.prove());
        TALLY.due("input", 0, x.input(0));
        x = Tally.reading("width 3; var a; any a : 3; assert a != 7;");
        TALLY.due("the greatest alone", 0, x.prove());
        TALLY.due("input", 7, x.input(0));
        TALLY.due("once more", 0, x.prove());
        TALLY.due("input", 7, x.input(0));
        x = Tally.reading("width 3; var a; any a : 3; assert a <= 7;");
        x.put(0, 5);
        TALLY.due("none", -1, x.prove());
        TALLY.due("inputs stay", 5, x.input(0));
        x = Tally.reading("width 4; var a; var b; var c; any a : 4; any b : 4; any c : 4; assert a + b + c != 15 || a < 15 || b < 15;");
        x.put(0, 1);
        TALLY.due("one of 4,096", 0, x.prove());
        TALLY.due("first", 15, x.input(0));
        TALLY.due("second", 15, x.input(1));
        TALLY.due("third", 1, x.input(2));
        TALLY.due("doubts", 0, x.doubts());
    }

    private static void proveWithNothingToBreak() {
        TALLY.due("no text", -1, new RunProver().prove());
        RunProver x = Tally.reading("width 3; var a; any a : 3;");
        x.put(0, 4);
        TALLY.due("no checks", -1, x.prove());
        TALLY.due("inputs stay", 4, x.input(0));
        TALLY.due("doubts", 0, x.doubts());
        TALLY.due("no inputs, breaks", 0, Tally.reading("width 3; assert 0;").prove());
        TALLY.due("no inputs, holds", -1, Tally.reading("width 3; assert 1;").prove());
        TALLY.due("no inputs, stopped", -1, Tally.reading("width 3; assume 0; assert 0;").prove());
        TALLY.due("all stopped", -1, Tally.reading("width 3; var a; any a : 3; assume a > 7; assert 0;").prove());
        TALLY.due("all but one stopped", 0, Tally.reading("width 3; var a; any a : 3; assume a > 6; assert 0;").prove());
    }

    /** Promise 7, and NoSuchElementException: no such CHECK. */
    private static void breaks() {
        RunProver x = Tally.reading(TEXT);
        for (int none : new int[] {-1, 3, 4, 30, LEAST, GREATEST}) {
            TALLY.thrown("breaks " + none, 1, () -> x.breaks(none));
            TALLY.thrown("reaches " + none, 1, () -> x.reaches(none));
            TALLY.thrown("check " + none, 1, () -> x.check(none, 0));
        }
        TALLY.due("the first", 1, x.breaks(0));
        TALLY.due("by", 60, 10 * x.input(0) + x.input(1));
        TALLY.due("the second", 1, x.breaks(1));
        TALLY.due("by", 3, 10 * x.input(0) + x.input(1));
        TALLY.due("the last", 1, x.breaks(2));
        TALLY.due("by", 70, 10 * x.input(0) + x.input(1));
        StringBuilder thirty = new StringBuilder("width 5; var a; any a : 5; ");
        for (int c = 0; c < 30; c++) {
            thirty.append("assert a != " + (31 - c) + "; ");
        }
        RunProver y = Tally.reading(thirty.toString());
        for (int c = 0; c < 30; c++) {
            TALLY.due("one of thirty", 1, y.breaks(c));
            TALLY.due("by", 31 - c, y.input(0));
        }
        TALLY.thrown("one more", 1, () -> y.breaks(30));
        TALLY.due("prove of thirty", 29, y.prove());
        TALLY.due("by", 2, y.input(0));
        RunProver none = Tally.reading("width 3;");
        TALLY.thrown("without checks: breaks", 1, () -> none.breaks(0));
        TALLY.thrown("without checks: reaches", 1, () -> none.reaches(0));
        TALLY.thrown("without checks: check", 1, () -> none.check(0, 0));
    }

    /** Promise 8: whether a RUN comes to it, whether it BREAKS there or not. */
    private static void reaches() {
        RunProver x = Tally.reading("width 3; var a; any a : 3; assert a > 2; assert a < 6; assume a == 5; assert 1; assume a != 5; assert 0;");
        x.put(0, 4);
        int[] due = {1, 1, 1, 0};
        int[] by = {0, 3, 5, 5};
        for (int c = 0; c < due.length; c++) {
            TALLY.due("reaches " + c, due[c], x.reaches(c));
            TALLY.due("by", by[c], x.input(0));
        }
        TALLY.due("doubts", 0, x.doubts());
        RunProver y = Tally.reading("width 3; assert 0; assert 0;");
        TALLY.due("one that breaks is come to", 1, y.reaches(0));
        TALLY.due("one behind it is not", 0, y.reaches(1));
    }

    /** Of an ARRAY: to the STATEMENT; of a while: to its EXPRESSION behind the last round, true or not. */
    private static void reachesTheElementAndTheLastRound() {
        RunProver x = Tally.reading("width 3; var a; var t[2]; any a : 3; assume a > 2; t[a] = 1;");
        TALLY.due("an element that is never there", 1, x.reaches(0));
        TALLY.due("by", 3, x.input(0));
        TALLY.due("breaks", 1, x.breaks(0));
        x = Tally.reading("width 3; var a; any a : 3; while a limit 2 { a = a - 1; }");
        TALLY.due("behind two rounds, where it is not true", 1, x.reaches(0));
        TALLY.due("by", 2, x.input(0));
        TALLY.due("where it is true", 1, x.breaks(0));
        TALLY.due("by", 3, x.input(0));
        x = Tally.reading("width 3; var a; any a : 3; while a > 6 limit 2 { a = a - 1; }");
        TALLY.due("behind one round it is over", 0, x.reaches(0));
        x = Tally.reading("width 3; var a; any a : 3; while 1 limit 2 { assume a != 3; a = a + 1; assume a != 6; }");
        TALLY.due("always true", 1, x.reaches(0));
        TALLY.due("by", 0, x.input(0));
        x = Tally.reading("width 3; var a; any a : 3; while 1 limit 2 { assume a == 6; a = a + 1; }");
        TALLY.due("stopped before the last round is over", 0, x.reaches(0));
        x = Tally.reading("width 3; var a; any a : 3; assume a == 6; while a == 7 limit 0 { }");
        TALLY.due("a limit of 0: at once, not true", 1, x.reaches(0));
        TALLY.due("by", 6, x.input(0));
        TALLY.due("it does not break", 0, x.breaks(0));
    }

    /** Promise 9: NoSuchElementException: there is none, or the VALUE is none. */
    private static void ends() {
        RunProver x = Tally.reading(TEXT);
        int[][] none = {{-1, 0, 0}, {3, 0, 0}, {LEAST, 0, 0}, {GREATEST, 0, 0}, {0, 1, 0}, {0, -1, 0}, {1, 3, 0}, {1, -1, 0},
            {1, LEAST, 0}, {1, GREATEST, 0}, {2, 1, 0}, {0, 0, -1}, {0, 0, 8}, {0, 0, LEAST}, {0, 0, GREATEST}, {1, 2, 8}, {3, 3, 8}};
        for (int[] n : none) {
            TALLY.thrown("ends " + n[0] + " " + n[1] + " " + n[2], 1, () -> x.ends(n[0], n[1], n[2]));
        }
        TALLY.due("the last name, a value that is never", 0, x.ends(2, 0, 3));
        TALLY.due("the last element", 1, x.ends(1, 2, 5));
        TALLY.due("by", 52, 10 * x.input(0) + x.input(1));
        TALLY.due("the greatest value", 0, x.ends(1, 2, 7));
        TALLY.due("the first name", 1, x.ends(0, 0, 4));
        TALLY.due("by", 40, 10 * x.input(0) + x.input(1));
        TALLY.thrown("no text", 1, () -> new RunProver().ends(0, 0, 0));
        TALLY.thrown("no names", 1, () -> Tally.reading("width 3; fun f(p) = p;").ends(0, 0, 0));
        for (int w = 1; w <= 8; w++) {
            RunProver y = Tally.reading("width " + w + "; var a; a = -1;");
            int beyond = 1 << w;
            TALLY.due("the greatest value by " + w, 1, y.ends(0, 0, beyond - 1));
            TALLY.thrown("one more by " + w, 1, () -> y.ends(0, 0, beyond));
        }
    }

    private static void endsOfEveryValue() {
        RunProver x = Tally.reading("width 8; var a; any a : 8; assume a != 100; assert a != 200; a = a + 1;");
        for (int v = 0; v < 256; v += v > 109 && v < 190 || v > 4 && v < 96 || v > 209 && v < 250 ? 4 : 1) {
            boolean none = v == 101 || v == 201;
            TALLY.due("ends " + v, none ? 0 : 1, x.ends(0, 0, v));
            TALLY.due("by", (none ? v - 2 : v - 1) & 255, x.input(0));
        }
        TALLY.due("doubts", 0, x.doubts());
    }

    /** Promise 10: NoSuchElementException: no such CHECK. IllegalArgumentException: another what. */
    private static void check() {
        RunProver x = Tally.reading(TEXT);
        int[] kinds = {1, 2, 3};
        int[] places = {TEXT.indexOf("assert"), TEXT.indexOf("t[b]"), TEXT.indexOf("while")};
        for (int c = 0; c < 3; c++) {
            int number = c;
            TALLY.due("kind " + c, kinds[c], x.check(c, 0));
            TALLY.due("place " + c, places[c], x.check(c, 1));
            for (int what : new int[] {-1, 2, 3, LEAST, GREATEST}) {
                TALLY.thrown("what " + what, 2, () -> x.check(number, what));
            }
        }
        TALLY.thrown("neither", 1, () -> x.check(3, 2));
        TALLY.thrown("neither", 1, () -> x.check(-1, -1));
        TALLY.due("a place of 0 can't be, but one behind the width can", 8, Tally.reading("width 1;assert 1;").check(0, 1));
    }

    /** Promise 11: NoSuchElementException: there is none. */
    private static void input() {
        RunProver x = Tally.reading(TEXT);
        for (int none : new int[] {-1, 2, 3, 12, LEAST, GREATEST}) {
            TALLY.thrown("input " + none, 1, () -> x.input(none));
            TALLY.thrown("put " + none, 1, () -> x.put(none, 0));
        }
        TALLY.due("the first", 0, x.input(0));
        TALLY.due("the last", 0, x.input(1));
        RunProver y = Tally.reading("width 1; var a; while 1 limit 12 { any a : 1; }");
        for (int i = 0; i < 12; i++) {
            TALLY.due("one of twelve", 0, y.put(i, 1));
        }
        TALLY.due("the last of twelve", 1, y.input(11));
        TALLY.thrown("a thirteenth", 1, () -> y.input(12));
        TALLY.thrown("a thirteenth", 1, () -> y.put(12, 0));
        TALLY.thrown("without inputs", 1, () -> Tally.reading("width 3; var a;").input(0));
        TALLY.thrown("without inputs", 1, () -> Tally.reading("width 3; var a;").put(0, 0));
    }

    /** Promise 12: what it was. IllegalArgumentException: it has not so many bits. */
    private static void put() {
        for (int k = 1; k <= 8; k++) {
            RunProver x = Tally.reading("width 8; var a; any a : " + k + ";");
            int most = (1 << k) - 1;
            TALLY.due("the greatest of " + k, 0, x.put(0, most));
            TALLY.due("what it was", most, x.put(0, most - 1));
            for (int none : new int[] {most + 1, most + 2, 256, -1, LEAST, GREATEST}) {
                TALLY.thrown(none + " in " + k + " bits", 2, () -> x.put(0, none));
            }
            TALLY.due("it stays", most - 1, x.put(0, 0));
            TALLY.due("nothing", 0, x.put(0, 0));
        }
        TALLY.thrown("no input and no value", 1, () -> Tally.reading("width 3;").put(0, -1));
        TALLY.thrown("no input and no value", 1, () -> Tally.reading(TEXT).put(2, 8));
    }

    /** Promise 13: the CHECK that BREAKS, -1 to the TEXT's end, -2 STOPPED. -3 without a TEXT. */
    private static void run() {
        TALLY.due("without a text", -3, new RunProver().run());
        TALLY.due("behind a fault", -3, Tally.reading("width 9;").run());
        TALLY.due("a text of nothing", -1, Tally.reading("width 8;").run());
        RunProver x = Tally.reading("width 3; var a; any a : 3; assume a != 1; if a == 2 { assert 0; } assert a != 3; assume a != 4; while a == 5 limit 0 { }");
        int[] due = {-1, -2, 0, 1, -2, 2, -1, -1};
        for (int a = 0; a < due.length; a++) {
            x.put(0, a);
            TALLY.due("run with " + a, due[a], x.run());
            TALLY.due("once more", due[a], x.run());
        }
        StringBuilder thirty = new StringBuilder("width 5; var a; any a : 5; ");
        for (int c = 0; c < 30; c++) {
            thirty.append("assert a != " + c + "; ");
        }
        RunProver y = Tally.reading(thirty.toString());
        for (int a = 0; a < 32; a++) {
            y.put(0, a);
            TALLY.due("run with " + a, a < 30 ? a : -1, y.run());
        }
    }

    /** Promise 14: STOPPED or broken off, too; NoSuchElementException: there is none. */
    private static void value() {
        RunProver x = Tally.reading(TEXT);
        int[][] none = {{-1, 0}, {3, 0}, {200, 0}, {LEAST, 0}, {GREATEST, 0}, {0, 1}, {0, -1}, {0, LEAST}, {0, GREATEST}, {1, 3},
            {1, -1}, {1, 16}, {2, 1}, {3, 3}};
        for (int[] n : none) {
            TALLY.thrown("value " + n[0] + " " + n[1], 1, () -> x.value(n[0], n[1]));
        }
        x.put(0, 5);
        x.put(1, 2);
        TALLY.due("the first name", 4, x.value(0, 0));
        TALLY.due("the last element", 5, x.value(1, 2));
        TALLY.due("the last name, a function not counted", 2, x.value(2, 0));
        x.put(0, 6);
        TALLY.due("broken off by an assert", 0, x.value(1, 2));
        x.put(0, 7);
        TALLY.due("broken off behind the last round", 6, x.value(0, 0));
        x.put(1, 3);
        TALLY.due("broken off by an element that is not there", 7, x.value(0, 0));
        RunProver y = Tally.reading("width 3; var a; a = 1; if 1 { a = 2; assume 0; a = 3; } a = 4;");
        TALLY.due("stopped in a block", 2, y.value(0, 0));
        TALLY.thrown("no text", 1, () -> new RunProver().value(0, 0));
        TALLY.thrown("no names", 1, () -> Tally.reading("width 3; fun f(p) = p;").value(0, 0));
    }

    /** Promise 15: of all answers 0 and -1 since the TEXT was read: none is without a refutation here. */
    private static void doubts() {
        RunProver x = Tally.reading("width 4; var a; var b; any a : 4; any b : 4; assert a - b + b == a; if a < b && b < a { assert 0; }");
        TALLY.due("before any answer", 0, x.doubts());
        TALLY.due("prove", -1, x.prove());
        TALLY.due("breaks", 0, x.breaks(0) + x.breaks(1));
        TALLY.due("reaches", 0, x.reaches(1));
        TALLY.due("ends with", 1, x.ends(0, 0, 15));
        TALLY.due("behind them", 0, x.doubts());
        RunProver y = Tally.reading("width 1; var a; assume 0;");
        TALLY.due("without inputs: ends", 0, y.ends(0, 0, 0) + y.ends(0, 0, 1));
        TALLY.due("without checks: prove", -1, y.prove());
        TALLY.due("doubts", 0, y.doubts());
    }

    /** Promise 16: 0 .. 6, else -1. */
    private static void count() {
        RunProver x = Tally.reading("width 8; var a; var t[16]; fun f(p, q) = p; any a : 8; any a : 4; assert 1; t[0] = 1;");
        int[] due = {2, 2, 12, 2, 8 + 32 + 8 + 32 + 8 + 24 + 8 + 9 * 16 * 8, 0, 8};
        for (int what = 0; what < due.length; what++) {
            TALLY.due("count " + what, due[what], x.count(what));
        }
        for (int what : new int[] {-1, 7, 8, LEAST, GREATEST}) {
            TALLY.due("count " + what, -1, x.count(what));
            TALLY.due("count " + what + " of a new one", -1, new RunProver().count(what));
        }
        x.feed(0, 0, 0, 0, 0);
        TALLY.due("the tape's length", 20, x.count(5));
        x.end(3);
        TALLY.due("the tape's length", 3, x.count(5));
        TALLY.due("the text's width", 8, x.count(6));
    }

    private static List<Integer> stateOf(RunProver x) {
        List<Integer> state = new ArrayList<>();
        for (int what = 0; what <= 6; what++) {
            state.add(x.count(what));
        }
        state.add(x.fault(0));
        state.add(x.fault(1));
        state.add(x.doubts());
        state.add(x.run());
        for (int i = 0; i < x.count(1); i++) {
            state.add(x.input(i));
        }
        for (int c = 0; c < x.count(0); c++) {
            state.add(x.check(c, 0) * 100 + x.check(c, 1));
        }
        for (int e = 0; e < 3; e++) {
            state.add(x.value(1, e));
        }
        return state;
    }

    private static void refusedCallsChangeNothing() {
        RunProver x = Tally.reading(TEXT);
        x.put(0, 3);
        x.put(1, 2);
        x.feed(1, 2, 3, 4, 5);
        List<Integer> before = stateOf(x);
        TALLY.thrown("end", 2, () -> x.end(21));
        TALLY.thrown("breaks", 1, () -> x.breaks(3));
        TALLY.thrown("reaches", 1, () -> x.reaches(-1));
        TALLY.thrown("ends", 1, () -> x.ends(0, 0, 8));
        TALLY.thrown("ends", 1, () -> x.ends(1, 3, 0));
        TALLY.thrown("check", 1, () -> x.check(3, 0));
        TALLY.thrown("check", 2, () -> x.check(0, 2));
        TALLY.thrown("input", 1, () -> x.input(2));
        TALLY.thrown("put", 1, () -> x.put(2, 1));
        TALLY.thrown("put", 2, () -> x.put(0, 8));
        TALLY.thrown("value", 1, () -> x.value(3, 0));
        x.fault(2);
        x.count(7);
        TALLY.due("all is as it was", 1, before.equals(stateOf(x)) ? 1 : 0);
    }

    /** Else 0 or -1 (INPUTS stay). */
    private static void answersOfNoneChangeNothing() {
        RunProver x = Tally.reading("width 3; var a; var t[3]; any a : 3; assert a < 7 || 1; t[a % 3] = 7; assume 0; assert 0;");
        x.put(0, 6);
        List<Integer> before = stateOf(x);
        TALLY.due("prove", -1, x.prove());
        TALLY.due("breaks", 0, x.breaks(0));
        TALLY.due("breaks", 0, x.breaks(2));
        TALLY.due("reaches", 0, x.reaches(2));
        TALLY.due("ends", 0, x.ends(0, 0, 6));
        TALLY.due("all is as it was", 1, before.equals(stateOf(x)) ? 1 : 0);
        TALLY.due("one that is come to", 1, x.reaches(1));
        TALLY.due("takes the least", 0, x.input(0));
    }

    /** No question leaves anything behind for the next one but INPUTS. */
    private static void questionsOneBehindTheOther() {
        RunProver x = Tally.reading("width 3; var a; any a : 3; assume a != 4; assert a < 7 || a == 7; assert a != 4; assert a != 3;");
        for (int k = 0; k < 2; k++) {
            x.put(0, 6);
            TALLY.due("ends", 1, x.ends(0, 0, 5));
            TALLY.due("prove", 2, x.prove());
            TALLY.due("by", 3, x.input(0));
            TALLY.due("reaches", 1, x.reaches(0));
            TALLY.due("by", 0, x.input(0));
            TALLY.due("breaks", 0, x.breaks(0));
            TALLY.due("breaks", 0, x.breaks(1));
            TALLY.due("ends", 0, x.ends(0, 0, 4));
            TALLY.due("by", 0, x.input(0));
            TALLY.due("breaks", 1, x.breaks(2));
            TALLY.due("by", 3, x.input(0));
        }
        RunProver y = Tally.reading("width 3; var a; any a : 3; assert a < 7 || a == 7; assert 1;");
        y.put(0, 6);
        TALLY.due("ends", 1, y.ends(0, 0, 5));
        TALLY.due("prove behind it", -1, y.prove());
        TALLY.due("by", 5, y.input(0));
        TALLY.due("reaches", 1, y.reaches(1));
        TALLY.due("prove behind it", -1, y.prove());
        TALLY.due("doubts", 0, y.doubts());
    }
}
