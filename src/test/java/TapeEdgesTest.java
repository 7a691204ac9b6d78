import java.nio.charset.StandardCharsets;

/** THE TAPE, and promises 1 to 5 at their edges. */
public final class TapeEdgesTest {
    private static final Tally TALLY = new Tally("TapeEdgesTest");
    private static final int BLANKS = 0x20202020;

    public static void main(String[] args) {
        newObject();
        fourBytesOfEachNumber();
        roomForTwenty();
        refusedFeedLeavesTheTape();
        endFromNothingToAll();
        refusedEndLeavesTheTape();
        whatWasCutOffDoesNotCount();
        readOfNothing();
        readTakesTheTape();
        readWithAFaultTakesAllAway();
        readAgain();
        muchReadOneBehindTheOther();
        readOfLongTexts();
        faultOfTheLastRead();
        TALLY.close();
    }

    /** Promise 1: an empty TAPE, no TEXT: no CHECKS, no INPUTS. */
    private static void newObject() {
        RunProver x = new RunProver();
        int[] due = {0, 0, 0, 0, 0, 0, 0};
        for (int what = 0; what < due.length; what++) {
            TALLY.due("new: count " + what, due[what], x.count(what));
        }
        TALLY.due("new: fault", 0, x.fault(0));
        TALLY.due("new: place", 0, x.fault(1));
        TALLY.due("new: doubts", 0, x.doubts());
        TALLY.due("new: run", -3, x.run());
        TALLY.due("new: end", 0, x.end(0));
        TALLY.thrown("new: end of more", 2, () -> x.end(1));
        TALLY.thrown("new: input", 1, () -> x.input(0));
        TALLY.thrown("new: check", 1, () -> x.check(0, 0));
        TALLY.thrown("new: value", 1, () -> x.value(0, 0));
        RunProver other = new RunProver();
        other.feed(1, 2, 3, 4, 5);
        TALLY.due("another object has a tape of its own", 0, x.count(5));
    }

    /** Promise 2: the four bytes of each number, the highest first, in the order of the numbers. */
    private static void fourBytesOfEachNumber() {
        RunProver x = new RunProver();
        TALLY.due("feed", 20, x.feed(four("widt"), four("h 8;"), four("var "), four("abcd"), four("[16]")));
        TALLY.due("feed", 40, x.feed(four(";#\0\u007f"), 0x80ff00fe, -1, Integer.MIN_VALUE, Integer.MAX_VALUE));
        TALLY.due("feed", 60, x.feed(four("\nass"), four("ert "), four("abcd"), four("[255"), four("];\n\n")));
        TALLY.due("read", 1, x.read());
        TALLY.due("the place of assert", 41, x.check(0, 1));
        for (int at = 0; at < 20; at++) {
            StringBuilder text = new StringBuilder("width 1;            ");
            text.setCharAt(at, '\u00e4');
            RunProver y = Tally.reading(text.toString());
            TALLY.due("byte " + at + " is read there: fault", 1, y.fault(0));
            // a letter of width that is gone leaves another WORD, which can't stand at the beginning
            TALLY.due("byte " + at + " is read there: place", at < 5 ? 0 : at, y.fault(1));
        }
    }

    private static int four(String signs) {
        byte[] b = signs.getBytes(StandardCharsets.ISO_8859_1);
        return b[0] << 24 | (b[1] & 255) << 16 | (b[2] & 255) << 8 | b[3] & 255;
    }

    private static RunProver filled(int length) {
        RunProver x = new RunProver();
        for (int l = 0; l < length; l += 20) {
            x.feed(BLANKS, BLANKS, BLANKS, BLANKS, BLANKS);
        }
        x.end(length);
        return x;
    }

    /** Promise 2: IllegalStateException: there is no room for 20; THE TAPE: at most 65,536. */
    private static void roomForTwenty() {
        TALLY.due("room for 20", 65536, filled(65516).feed(0, 0, 0, 0, 0));
        for (int length = 65517; length <= 65520; length++) {
            RunProver x = filled(length);
            TALLY.thrown("room for less than 20", 3, () -> x.feed(0, 0, 0, 0, 0));
            TALLY.due("nothing came", length, x.count(5));
        }
        RunProver x = filled(65516);
        x.feed(0, 0, 0, 0, 0);
        TALLY.thrown("no room at all", 3, () -> x.feed(0, 0, 0, 0, 0));
        TALLY.due("all of it stays", 65536, x.end(65536));
        TALLY.thrown("beyond all of it", 2, () -> x.end(65537));
        TALLY.due("back to where 20 fit", 65516, x.end(65516));
        TALLY.due("they come again", 65536, x.feed(0, 0, 0, 0, 0));
        TALLY.due("read of a full tape", -1, x.read());
        TALLY.due("its fault is the first byte that is none", 65516, x.fault(1));
        TALLY.due("room again", 20, x.feed(0, 0, 0, 0, 0));
    }

    private static void refusedFeedLeavesTheTape() {
        RunProver x = new RunProver();
        Tally.give(x, "width 3; assert 1;" + Tally.times(" ", 65520 - 18));
        TALLY.thrown("no room", 3, () -> x.feed(-1, -1, -1, -1, -1));
        TALLY.due("length", 65520, x.count(5));
        TALLY.due("what was fed is read", 1, x.read());
    }

    /** Promise 3: only the first n bytes stay; n is 0 .. the TAPE's length. */
    private static void endFromNothingToAll() {
        RunProver x = new RunProver();
        x.feed(BLANKS, BLANKS, BLANKS, BLANKS, BLANKS);
        TALLY.due("all", 20, x.end(20));
        TALLY.thrown("one more", 2, () -> x.end(21));
        TALLY.due("one less", 19, x.end(19));
        TALLY.thrown("it is not there any more", 2, () -> x.end(20));
        TALLY.due("the same once more", 19, x.end(19));
        TALLY.due("one", 1, x.end(1));
        TALLY.due("nothing", 0, x.end(0));
        TALLY.thrown("one", 2, () -> x.end(1));
        TALLY.thrown("less than nothing", 2, () -> x.end(-1));
        TALLY.thrown("the greatest number", 2, () -> x.end(Integer.MAX_VALUE));
        TALLY.thrown("the least number", 2, () -> x.end(Integer.MIN_VALUE));
        TALLY.due("feed behind it", 20, x.feed(0, 0, 0, 0, 0));
        RunProver y = new RunProver();
        Tally.give(y, "width 1; assert 1;assert 0;");
        y.end(18);
        TALLY.due("the first bytes stay", 1, y.read());
        TALLY.due("and no other", -1, y.prove());
    }

    private static void refusedEndLeavesTheTape() {
        RunProver x = new RunProver();
        Tally.give(x, "width 1; assert 1;");
        TALLY.thrown("beyond", 2, () -> x.end(19));
        TALLY.thrown("before", 2, () -> x.end(-1));
        TALLY.due("length", 18, x.count(5));
        TALLY.due("read", 1, x.read());
    }

    /** Promise 3: only the first n bytes stay, though a WORD, NUMBER, sign or remark went on behind them. */
    private static void whatWasCutOffDoesNotCount() {
        String head = "width 3; var x; ";
        String most = Tally.times("a", 31);
        String[][] cuts = {{"x = x", "y;", "1"}, {"x = 7", "7;", "1"}, {"x =", "= 1;", "1"}, {"x = x <", "< 1;", "1"},
            {"x = x;", ";", "0"}, {"x = " + most, "a;", "2"}, {"x = 000000001", "1;", "1"}, {"x = x; #", "\nx", "0"},
            {"x = x; # x\n", "x", "0"}, {"if x { }", " else", "0"}, {"x = x", ";", "1"}, {"", "x", "0"}};
        for (String[] cut : cuts) {
            RunProver x = new RunProver();
            Tally.give(x, head + cut[0] + cut[1]);
            int length = head.length() + cut[0].length();
            TALLY.due("end", length, x.end(length));
            x.read();
            int due = Integer.parseInt(cut[2]);
            TALLY.due("fault of " + cut[0] + " without " + cut[1], due, x.fault(0));
            TALLY.due("place in " + cut[0] + " without " + cut[1], due == 0 ? 0 : due == 1 ? length : head.length() + 4, x.fault(1));
        }
        RunProver x = new RunProver();
        Tally.give(x, "width 3; assert 0; assert 0; assert 0;");
        x.end(8);
        Tally.give(x, " assert 1;");
        TALLY.due("what is fed comes behind what stayed", 1, x.read());
        TALLY.due("nothing that was cut off comes back", -1, x.prove());
        Tally.give(x, "width 3;");
        TALLY.due("nor by a shorter text behind a read", 0, x.read());
    }

    /** Promise 4: an empty TAPE is a TEXT whose end can't stand there. */
    private static void readOfNothing() {
        RunProver x = new RunProver();
        TALLY.due("read", -1, x.read());
        TALLY.due("fault", 1, x.fault(0));
        TALLY.due("place", 0, x.fault(1));
        TALLY.due("run", -3, x.run());
        Tally.give(x, "width 1;");
        TALLY.due("read of the least text", 0, x.read());
        TALLY.due("run", -1, x.run());
        TALLY.due("read of what was emptied", -1, x.read());
        TALLY.due("run", -3, x.run());
    }

    /** Promise 4: the TAPE is the TEXT, and empty then; all INPUTS are 0. */
    private static void readTakesTheTape() {
        RunProver x = new RunProver();
        Tally.give(x, "width 2; var x; any x : 2; assert x < 3;");
        TALLY.due("before: no checks", 0, x.count(0));
        TALLY.due("before: length", 40, x.count(5));
        TALLY.due("read", 1, x.read());
        TALLY.due("behind: length", 0, x.count(5));
        TALLY.thrown("behind: nothing to end", 2, () -> x.end(1));
        TALLY.due("input", 0, x.input(0));
        TALLY.due("feeding leaves the text", 20, x.feed(-1, -1, -1, -1, -1));
        TALLY.due("prove", 0, x.prove());
        TALLY.due("input", 3, x.input(0));
        TALLY.due("place of the check", 27, x.check(0, 1));
    }

    /** Promise 4: -1: a FAULT, and there is no TEXT; all that was before is gone. */
    private static void readWithAFaultTakesAllAway() {
        RunProver x = Tally.reading("width 2; var x; var t[2]; any x : 2; assert x < 3; t[1] = 1;");
        x.prove();
        Tally.give(x, "width 2; var x; var t[2]; any x : 2; assert x < 4;");
        TALLY.due("read", -1, x.read());
        TALLY.due("fault", 3, x.fault(0));
        TALLY.due("place", 48, x.fault(1));
        for (int what = 0; what <= 6; what++) {
            TALLY.due("count " + what, 0, x.count(what));
        }
        TALLY.due("run", -3, x.run());
        TALLY.due("prove", -1, x.prove());
        TALLY.due("doubts", 0, x.doubts());
        TALLY.thrown("breaks", 1, () -> x.breaks(0));
        TALLY.thrown("reaches", 1, () -> x.reaches(0));
        TALLY.thrown("ends", 1, () -> x.ends(0, 0, 0));
        TALLY.thrown("check", 1, () -> x.check(0, 0));
        TALLY.thrown("input", 1, () -> x.input(0));
        TALLY.thrown("put", 1, () -> x.put(0, 0));
        TALLY.thrown("value", 1, () -> x.value(0, 0));
    }

    /** Promise 4: all that was before is gone, INPUTS too. */
    private static void readAgain() {
        String text = "width 2; var x; any x : 2; x = x + x; assert x < 2;";
        RunProver x = Tally.reading(text);
        x.put(0, 3);
        TALLY.due("value", 2, x.value(0, 0));
        Tally.give(x, text);
        TALLY.due("read", 1, x.read());
        TALLY.due("input", 0, x.input(0));
        TALLY.due("value", 0, x.value(0, 0));
        Tally.give(x, "width 1; var y;");
        TALLY.due("read of less", 0, x.read());
        TALLY.thrown("no input", 1, () -> x.input(0));
        TALLY.thrown("no check", 1, () -> x.breaks(0));
        TALLY.thrown("no value 2", 1, () -> x.ends(0, 0, 2));
        TALLY.due("value", 0, x.value(0, 0));
    }

    /** Promise 4: all that was before is gone, so what is counted begins anew with each TEXT. */
    private static void muchReadOneBehindTheOther() {
        StringBuilder names = new StringBuilder("width 3; ");
        for (int n = 0; n < 200; n++) {
            names.append("var v" + n + "[16]; ");
        }
        String signs = "x||x&&x|x^x&x==x<x<<x+x*(";
        String deep = "width 1; var x; x = " + Tally.times(signs, 19) + "x&&x|x^x&x==x<x<<x+x*x" + Tally.times(")", 19) + ";";
        String tooDeep = "width 1; var x; x = " + Tally.times(signs, 20) + "x" + Tally.times(")", 20) + ";";
        String most = "width 1; var x; while 0 limit 50 { " + Tally.times("x = 1; ", 49) + "}" + Tally.times("x = x;", 36);
        String[] texts = {names.toString(), deep, most, "width 8; var a; any a : 8; any a : 4;",
            "width 3; " + Tally.times("assert 1; ", 30), "width 1; var x;" + Tally.times("assume 1;", 300),
            "width 3; fun f(p) = q;", "width 3; fun f(p) = " + Tally.times("(", 60), "width 8; var x; any x : 8; any x : 8;",
            "width 3; fun f(p, q) = p; var x; if 1 { x = f(1, ", "width 3; var p; p = 1; while p limit 50 { p = 2; $", tooDeep};
        int[] faults = {0, 0, 0, 0, 0, 0, 2, 4, 4, 1, 1, 4};
        RunProver x = new RunProver();
        for (int k = 0; k < 4 * texts.length; k++) {
            int at = k < 2 * texts.length ? k / 2 : k * 5 % texts.length;
            // a new object now and then, as one is used for 512 calls alone
            x = k % 3 == 0 ? new RunProver() : x;
            Tally.give(x, texts[at]);
            x.read();
            TALLY.due("fault of " + Edge.shown(texts[at]), faults[at], x.fault(0));
            RunProver alone = Tally.reading(texts[at]);
            for (int what = 0; what <= 6; what++) {
                TALLY.due("count " + what + " of " + Edge.shown(texts[at]), alone.count(what), x.count(what));
            }
            TALLY.due("run of " + Edge.shown(texts[at]), alone.run(), x.run());
        }
    }

    /** As much as 512 calls can feed, in a few TEXTS: none takes room from the next. */
    private static void readOfLongTexts() {
        RunProver x = new RunProver();
        for (int k = 0; k < 2; k++) {
            String text = "width 1;var x;var y;any x:1;y=x" + Tally.times("^x", 2400) + ";assert y==x;";
            Tally.give(x, text);
            TALLY.due("checks", 1, x.read());
            TALLY.due("prove", -1, x.prove());
            x.put(0, 1);
            TALLY.due("an odd number of them", 1, x.value(1, 0));
        }
        RunProver y = new RunProver();
        for (int k = 0; k < 2; k++) {
            Tally.give(y, "width 1;var x;" + Tally.times("x=1;", 1200) + "x=0;assert x;");
            TALLY.due("checks", 1, y.read());
            TALLY.due("the last one counts", 0, y.run());
            TALLY.due("value", 0, y.value(0, 0));
        }
        RunProver z = new RunProver();
        for (int k = 0; k < 3; k++) {
            StringBuilder text = new StringBuilder("width 3;var x;");
            for (int f = 0; f < 99; f++) {
                text.append("fun f" + f + "(p)=" + (f == 0 ? "p" : "f" + (f - 1) + "(p)") + (f > 0 && f % 10 == 0 ? "+1" : "") + ";");
            }
            Tally.give(z, text + "x=f98(2);");
            TALLY.due("checks", 0, z.read());
            TALLY.due("value", 2 + 9 & 7, z.value(0, 0));
        }
    }

    /** Promise 5: of the last read: 0 the FAULT (0: none), 1 its place (0). Else -1. */
    private static void faultOfTheLastRead() {
        RunProver x = Tally.reading("width 1; ;");
        int[] asked = {-1, 0, 1, 2, Integer.MIN_VALUE, Integer.MAX_VALUE};
        int[] due = {-1, 1, 9, -1, -1, -1};
        for (int k = 0; k < asked.length; k++) {
            TALLY.due("fault " + asked[k], due[k], x.fault(asked[k]));
        }
        Tally.give(x, "width 1; var x; x = 2;");
        TALLY.due("before the read: fault", 1, x.fault(0));
        x.read();
        TALLY.due("behind it: fault", 3, x.fault(0));
        TALLY.due("behind it: place", 20, x.fault(1));
        Tally.give(x, "width 1; var x; x = 1;");
        x.read();
        int[] none = {-1, 0, 0, -1, -1, -1};
        for (int k = 0; k < asked.length; k++) {
            TALLY.due("without one: fault " + asked[k], none[k], x.fault(asked[k]));
        }
    }
}
