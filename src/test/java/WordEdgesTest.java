/** Terms, TEXT: WORDS, NUMBERS, signs, blanks, and what stands behind #. */
public final class WordEdgesTest {
    private static final Tally TALLY = new Tally("WordEdgesTest");
    private static final Edge EDGE = new Edge(TALLY);
    private static final String HEAD = "width 3; var x; var y; ";

    public static void main(String[] args) {
        everyByteAlone();
        everyByteInAWord();
        theFirstSignOfAWord();
        theLongestWord();
        theLongestNumber();
        theLongestSign();
        signsThatAreParted();
        blanks();
        remarks();
        theTextsEnd();
        TALLY.close();
    }

    private static boolean isLetter(int b) {
        return b >= 'a' && b <= 'z' || b >= 'A' && b <= 'Z';
    }

    /** Letters, digits, signs, blanks, # and what is none of these. */
    private static void everyByteAlone() {
        for (int b = 0; b < 256; b++) {
            char sign = (char) b;
            String text = "width 3; \u00a7" + sign + " var x; var x;";
            if (sign == '\u00a7') {
                continue;
            }
            if (b == ' ' || b == '\t' || b == '\n' || b == '\r') {
                EDGE.bad("byte " + b + " is a blank", 2, "width 3; " + sign + " var x; var \u00a7x;");
            } else if (sign == '#') {
                EDGE.good("byte " + b + " takes the rest away", "width 3; # var x; var x;");
            } else if (isLetter(b)) {
                EDGE.bad("byte " + b + " is a word that is not declared", 2, text);
            } else {
                EDGE.bad("byte " + b + " can't stand there", 1, text);
            }
        }
    }

    /** Letters, digits and _ go on with a WORD; all else ends it. */
    private static void everyByteInAWord() {
        for (int b = 0; b < 256; b++) {
            char sign = (char) b;
            boolean more = sign == '_' || b >= '0' && b <= '9' || isLetter(b);
            boolean parts = b == ' ' || b == '\t' || b == '\n' || b == '\r' || sign == '#';
            RunProver x = Tally.reading("width 3; var ab; ab = a" + sign + "b;");
            TALLY.due("a word with byte " + b + " in it is not declared", 2, x.fault(0));
            TALLY.due("a word with byte " + b + " in it: place", 22, x.fault(1));
            x = Tally.reading("width 3; var a" + sign);
            TALLY.due("byte " + b + " behind a word", sign == ';' ? 0 : 1, x.fault(0));
            boolean fits = more || parts || sign == '[';
            TALLY.due("byte " + b + " behind a word: place", sign == ';' ? 0 : fits ? 15 : 14, x.fault(1));
            if (more) {
                EDGE.good("byte " + b + " is of the word", "width 3; var a" + sign + "b; a" + sign + "b = 1;");
                EDGE.bad("byte " + b + " is of the word", 2, "width 3; var a; \u00a7a" + sign + " = 1;");
            }
        }
    }

    private static void theFirstSignOfAWord() {
        for (char sign : new char[] {'a', 'z', 'A', 'Z'}) {
            EDGE.good("a letter is first", "width 3; var " + sign + "; " + sign + " = 1;");
            EDGE.good("a letter is first", "width 3; var " + sign + "_9Zz0A; " + sign + "_9Zz0A = 1;");
        }
        for (char sign : new char[] {'@', '`', '_', '0', '9', '\u00aa', '\u00e4', '\u00c1'}) {
            EDGE.bad("no letter is first", 1, "width 3; var \u00a7" + sign + "a;");
        }
        EDGE.bad("a number, then a word", 1, HEAD + "x = 1\u00a7x;");
        EDGE.bad("words differ by great and small letters", 2, HEAD + "\u00a7X = 1;");
        EDGE.bad("keywords, too", 1, "\u00a7WIDTH 3;");
        EDGE.bad("a word differs by its last sign", 2, HEAD + "var xa; \u00a7xb = 1;");
        EDGE.bad("a word differs by its length", 2, HEAD + "var xab; \u00a7xa = 1;");
        EDGE.bad("a word differs by its length", 2, HEAD + "var xa; \u00a7xab = 1;");
    }

    /** At most 31 signs. */
    private static void theLongestWord() {
        String most = "w" + Tally.times("1_b", 10);
        EDGE.step("a word to declare", "width 3; var " + most + ";", 1, "width 3; var \u00a7" + most + "c;");
        EDGE.step("a word to use", "width 3; var " + most + "; " + most + " = " + most + ";", 1,
            "width 3; var " + most + "; " + most + " = \u00a7" + most + "c;");
        EDGE.bad("two words that differ by the last sign", 2, "width 3; var " + most + "; \u00a7" + most.substring(0, 30) + "z = 1;");
        EDGE.bad("too long at the beginning", 1, "\u00a7" + Tally.times("width", 7));
        EDGE.bad("too long where no word may stand", 1, "width \u00a7" + most + "c;");
        EDGE.bad("31 where no word may stand", 1, "width \u00a7" + most + ";");
        EDGE.bad("as long as a text may be", 1, "width 1; \u00a7" + Tally.times("a", 5000));
        EDGE.good("in a remark words have no length", "width 1; #" + Tally.times("a", 5000));
        EDGE.bad("too long comes before not declared", 1, HEAD + "x = \u00a7" + most + "c;");
        EDGE.bad("not declared", 2, HEAD + "x = \u00a7" + most + ";");
    }

    /** Digits, at most 9. */
    private static void theLongestNumber() {
        EDGE.step("a number in an expression", HEAD + "x = 000000007;", 1, HEAD + "x = \u00a70000000007;");
        EDGE.bad("nine digits, out of range", 3, HEAD + "x = \u00a7999999999;");
        EDGE.bad("ten digits, which would not fit an int", 1, HEAD + "x = \u00a79999999999;");
        EDGE.bad("ten digits whose low bits are small", 1, HEAD + "x = \u00a74294967297;");
        EDGE.step("width", "width 000000008;", 1, "width \u00a70000000008;");
        EDGE.step("elements", "width 3; var t[000000016];", 1, "width 3; var t[\u00a70000000016];");
        EDGE.step("bits", HEAD + "any x : 000000003;", 1, HEAD + "any x : \u00a70000000003;");
        EDGE.step("limit", HEAD + "while x limit 000000050 { }", 1, HEAD + "while x limit \u00a70000000050 { }");
        EDGE.bad("as many digits as a text may have", 1, HEAD + "x = \u00a7" + Tally.times("0", 5000) + ";");
        EDGE.bad("too long where no number may stand", 1, HEAD + "x \u00a70000000001");
        EDGE.bad("nine digits where no number may stand", 1, HEAD + "x \u00a7000000001");
    }

    /** The longest that stands there. */
    private static void theLongestSign() {
        for (String sign : new String[] {"==", "!=", "<", "<=", ">", ">=", "<<", ">>", "+", "-", "*", "/", "%",
            "&", "&&", "|", "||", "^"}) {
            EDGE.good("a sign between operands", HEAD + "x = x" + sign + "y;");
            EDGE.good("a sign between operands, with blanks", HEAD + "x = x " + sign + " y;");
        }
        EDGE.bad("== is one sign", 1, HEAD + "x\u00a7==y;");
        EDGE.bad("=== is == and =", 1, HEAD + "x = x==\u00a7=y;");
        EDGE.bad("!== is != and =", 1, HEAD + "x = x!=\u00a7=y;");
        EDGE.good("!=! is != and !", HEAD + "x = x!=!y;");
        EDGE.bad("<=< is <= and <", 1, HEAD + "x = x<=\u00a7<y;");
        EDGE.bad("<<< is << and <", 1, HEAD + "x = x<<\u00a7<y;");
        EDGE.bad("<<= is << and =", 1, HEAD + "x = x<<\u00a7=y;");
        EDGE.bad(">>= is >> and =", 1, HEAD + "x = x>>\u00a7=y;");
        EDGE.bad(">=> is >= and >", 1, HEAD + "x = x>=\u00a7>y;");
        EDGE.bad("<> is < and >", 1, HEAD + "x = x<\u00a7>y;");
        EDGE.bad("&&& is && and &", 1, HEAD + "x = x&&\u00a7&y;");
        EDGE.bad("||| is || and |", 1, HEAD + "x = x||\u00a7|y;");
        EDGE.bad("=! is = and !", 1, HEAD + "x = x \u00a7=!y;");
        EDGE.good("=! is = and !", HEAD + "x =!y;");
        EDGE.good("=~, =- are two signs each", HEAD + "x =~y; x =-y; x = x- -y; x = x--y; x = x-~-!y; x = !!y;");
        EDGE.bad("** is no sign", 1, HEAD + "x = x*\u00a7*y;");
        EDGE.bad("// is no sign", 1, HEAD + "x = x/\u00a7/y;");
        EDGE.bad("++ is no sign", 1, HEAD + "x = x+\u00a7+y;");
        EDGE.bad("^^ is no sign", 1, HEAD + "x = x^\u00a7^y;");
        EDGE.bad("a sign that is cut off by the end", 1, HEAD + "x = x <\u00a7");
    }

    private static void signsThatAreParted() {
        EDGE.bad("= =", 1, HEAD + "x = x \u00a7= = y;");
        EDGE.bad("! =", 1, HEAD + "x = x \u00a7! = y;");
        EDGE.bad("< =", 1, HEAD + "x = x < \u00a7= y;");
        EDGE.bad("< <", 1, HEAD + "x = x < \u00a7< y;");
        EDGE.bad("& &", 1, HEAD + "x = x & \u00a7& y;");
        EDGE.bad("| |", 1, HEAD + "x = x | \u00a7| y;");
        EDGE.bad("a remark parts them, too", 1, HEAD + "x = x <#\n\u00a7< y;");
        EDGE.bad("a word in two", 1, "\u00a7wid th 3;");
        EDGE.bad("a number in two", 1, HEAD + "x = 0 \u00a71;");
        EDGE.bad("a word in two by a remark", 1, "\u00a7wid#\nth 3;");
    }

    /** Bytes 32, 9, 10, 13; they only part. */
    private static void blanks() {
        EDGE.good("none where none is needed", "width 3;var x;var t[2];fun f(a,b)=a?b:a;if x{x=1;}else if x{}else{t[x]=f(x,1);}while x limit 2{}");
        for (String blank : new String[] {" ", "\t", "\n", "\r", " \t\n\r \t\n\r"}) {
            EDGE.good("blanks", blank + "width" + blank + "3" + blank + ";" + blank + "var" + blank + "x" + blank
                + ";" + blank + "x" + blank + "=" + blank + "1" + blank + ";" + blank);
        }
        for (char none : new char[] {'\u0000', '\b', '\u000b', '\f', '\u000e', '\u001f', '!', '\u0085', '\u00a0'}) {
            EDGE.bad("no blank", 1, "width 3;\u00a7" + none);
        }
        EDGE.bad("they count for a place", 1, " \t\n\r \u00a73");
        EDGE.bad("words run together", 1, "\u00a7width3;");
        EDGE.bad("words run together", 2, "width 3; \u00a7varx;");
        EDGE.bad("a number and a word run together", 1, HEAD + "while x \u00a7limit2 { }");
    }

    /** What stands from # to before the next byte 10, or the end. */
    private static void remarks() {
        EDGE.good("to before the next byte 10", "width 3; # var x;\nvar x; x = 1;");
        EDGE.bad("byte 13 does not end it", 2, "width 3; # var x;\r\n\u00a7x = 1;");
        EDGE.good("byte 13 does not end it", "width 3; # $ \r $ \n");
        EDGE.good("to the end", "width 3; # $");
        EDGE.good("with nothing in it, at the end", "width 3;#");
        EDGE.good("with nothing in it", "width 3#\n;");
        EDGE.good("# within it", "width 3; ## # $\n# $\n#$");
        EDGE.good("at the beginning", "# $\nwidth 3;");
        EDGE.bad("a text of a remark alone", 1, "# width 3;\u00a7");
        EDGE.bad("it counts for a place", 1, "width 3; # $\n\u00a7$");
        EDGE.bad("bytes of all kinds", 1, "width 3; #\u0000\u0001\u007f\u0080\u00ff\n\u00a7\u0000");
    }

    /** The TEXT's end is a FAULT 1 where something must stand; its place is the TEXT's length. */
    private static void theTextsEnd() {
        String marked = "width 3 ; @ var t [ 2 ] ; @ fun f ( a , b ) = a ; @ while t [ 0 ] limit 1 { t [ 0 ] = f ( 1 , - 2 )"
            + " ? 1 : less ( 1 , 2 ) ; } @ if 1 { } @ else { } @ if ! 1 { } @ else if 1 { assume 1 + ( 2 ) ; assert 1 ; } @";
        StringBuilder text = new StringBuilder();
        String[] parts = marked.split(" ");
        for (int p = 0; p < parts.length; p++) {
            if (parts[p].equals("@")) {
                continue;
            }
            text.append(parts[p]).append(' ');
            boolean whole = p + 1 < parts.length && parts[p + 1].equals("@");
            RunProver x = Tally.reading(text.toString());
            TALLY.due("fault of " + text, whole ? 0 : 1, x.fault(0));
            TALLY.due("place in " + text, whole ? 0 : text.length(), x.fault(1));
            x = Tally.reading(text + "\n# $");
            TALLY.due("fault with a remark of " + text, whole ? 0 : 1, x.fault(0));
            TALLY.due("place with a remark in " + text, whole ? 0 : text.length() + 4, x.fault(1));
        }
    }
}
