/** Texts at an edge that the document names, and one step beyond it. */
final class Edge {
    private static final char MARK = '\u00a7';

    private final Tally tally;

    Edge(Tally tally) {
        this.tally = tally;
    }

    /** A text without a FAULT. */
    void good(String sentence, String text) {
        RunProver x = Tally.reading(text);
        tally.due(sentence + ": fault of " + shown(text), 0, x.fault(0));
        tally.due(sentence + ": place in " + shown(text), 0, x.fault(1));
    }

    /** A text whose FAULT is due where a paragraph sign stands. */
    void bad(String sentence, int kind, String marked) {
        String text = marked.replace(String.valueOf(MARK), "");
        RunProver x = Tally.reading(text);
        tally.due(sentence + ": fault of " + shown(text), kind, x.fault(0));
        tally.due(sentence + ": place in " + shown(text), marked.indexOf(MARK), x.fault(1));
        tally.due(sentence + ": width of no text", 0, x.count(6));
    }

    /** At the edge there is no FAULT, a step beyond it there is one. */
    void step(String sentence, String good, int kind, String marked) {
        good(sentence, good);
        bad(sentence, kind, marked);
    }

    static String shown(String text) {
        return text.length() > 150 ? text.substring(0, 110) + " .. " + text.substring(text.length() - 30) : text;
    }
}
