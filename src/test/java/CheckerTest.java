import java.lang.reflect.Field;

/** Promise 15: the checker takes what follows and nothing else. */
public final class CheckerTest {
    private static final Tally TALLY = new Tally("CheckerTest");
    // literals of three nodes and their opposites
    private static final int A = 2;
    private static final int B = 4;
    private static final int C = 6;

    private final RunProver.Clauses clauses = new RunProver.Clauses();
    private final RunProver.Checker checker = new RunProver.Checker(clauses);

    /** The four clauses of an exclusive or that holds and does not hold: 0 to 3. */
    private CheckerTest() {
        clauses.amount = 0;
        clauses.add(new int[] {A, B}, 2);
        clauses.add(new int[] {A, B ^ 1}, 2);
        clauses.add(new int[] {A ^ 1, B}, 2);
        clauses.add(new int[] {A ^ 1, B ^ 1}, 2);
        checker.begin(4);
    }

    public static void main(String[] args) throws ReflectiveOperationException {
        refutation();
        refused();
        literals();
        oneRefusedSpoilsAll();
        assumptionsAreWithdrawn();
        eachQuestionBeginsAnew();
        noQuestionHasAnothersRefutation();
        doubtsAreCounted();
        everyQuestion();
        TALLY.close();
    }

    private boolean accepts(int[] step, int... chain) {
        return checker.accept(step, step.length, chain, chain.length);
    }

    private static void yes(String what, boolean got) {
        TALLY.due(what, 1, got ? 1 : 0);
    }

    private static void no(String what, boolean got) {
        TALLY.due(what, 0, got ? 1 : 0);
    }

    private static void refutation() {
        CheckerTest t = new CheckerTest();
        no("nothing is refuted yet", t.checker.refuted);
        yes("a from two clauses", t.accepts(new int[] {A}, 1, 0));
        yes("b from a and one more", t.accepts(new int[] {B}, 2));
        no("still nothing", t.checker.refuted);
        yes("the empty clause", t.accepts(new int[0], 3));
        yes("refuted", t.checker.refuted);
        t.checker.begin(4);
        no("begun anew", t.checker.refuted);
        no("and a is not known any more", t.accepts(new int[] {B}, 2));
    }

    private static void refused() {
        no("no chain", new CheckerTest().accepts(new int[] {A}));
        no("a clause with two left", new CheckerTest().accepts(new int[0], 0));
        no("a chain that ends before the contradiction", new CheckerTest().accepts(new int[] {A}, 0));
        no("a clause that holds", new CheckerTest().accepts(new int[] {A}, 2, 0));
        no("a clause of others", new CheckerTest().accepts(new int[] {C}, 1, 0));
        no("no such clause", new CheckerTest().accepts(new int[] {A}, 4, 0));
        no("no such clause before", new CheckerTest().accepts(new int[] {A}, 0, -1));
        no("the empty clause from all, in no order", new CheckerTest().accepts(new int[0], 0, 1, 2, 3));
        yes("a or c from two clauses", new CheckerTest().accepts(new int[] {A, C}, 0, 1));
        CheckerTest t = new CheckerTest();
        yes("a", t.accepts(new int[] {A}, 0, 1));
        yes("what is known already", t.accepts(new int[] {C, A}));
        no("its opposite", t.accepts(new int[] {A ^ 1}, 0));
    }

    private static void literals() {
        CheckerTest t = new CheckerTest();
        no("a, but b is open", t.checker.acceptLiteral(A, 0));
        no("no such clause", t.checker.acceptLiteral(A, 4));
        no("no such clause", t.checker.acceptLiteral(A, -1));
        t = new CheckerTest();
        yes("a", t.accepts(new int[] {A}, 0, 1));
        yes("b by a", t.checker.acceptLiteral(B, 2));
        no("c by clauses of others", t.checker.acceptLiteral(C, 2));
    }

    private static void oneRefusedSpoilsAll() {
        CheckerTest t = new CheckerTest();
        no("a step that is wrong", t.accepts(new int[] {C}, 0));
        yes("a", t.accepts(new int[] {A}, 0, 1));
        yes("b", t.checker.acceptLiteral(B, 2));
        yes("the empty clause", t.accepts(new int[0], 3));
        no("refuted all the same?", t.checker.refuted);
        t = new CheckerTest();
        no("a literal that is wrong", t.checker.acceptLiteral(C, 0));
        yes("a", t.accepts(new int[] {A}, 0, 1));
        yes("b", t.checker.acceptLiteral(B, 2));
        yes("the empty clause", t.accepts(new int[0], 3));
        no("refuted all the same?", t.checker.refuted);
    }

    /** What a step was held against is not known behind it, nor what came of that. */
    private static void assumptionsAreWithdrawn() {
        CheckerTest t = new CheckerTest();
        yes("a or c", t.accepts(new int[] {A, C}, 0, 1));
        no("the opposite of a was not learnt", t.checker.acceptLiteral(B, 0));
        t = new CheckerTest();
        yes("a or c", t.accepts(new int[] {A, C}, 0, 1));
        no("nor b from it", t.accepts(new int[0], 1));
        t = new CheckerTest();
        yes("c or a", t.accepts(new int[] {C, A}, 0, 1));
        no("nor the opposite of a, if it came second", t.checker.acceptLiteral(B, 0));
        t = new CheckerTest();
        no("a step that is refused", t.accepts(new int[] {A}, 0));
        no("leaves nothing, too", t.accepts(new int[0], 1));
        t = new CheckerTest();
        yes("a", t.accepts(new int[] {A}, 0, 1));
        yes("a or c, held against what is known", t.accepts(new int[] {C, A}));
        yes("a is still known", t.accepts(new int[] {B}, 2));
        no("c is not", t.accepts(new int[] {C}));
    }

    private static void eachQuestionBeginsAnew() {
        CheckerTest t = new CheckerTest();
        no("a step that is wrong", t.accepts(new int[] {C}, 0));
        t.checker.begin(4);
        yes("a", t.accepts(new int[] {A}, 0, 1));
        yes("b", t.accepts(new int[] {B}, 2));
        yes("the empty clause", t.accepts(new int[0], 3));
        yes("refuted", t.checker.refuted);
        t.checker.begin(4);
        no("not a step of the question before", t.accepts(new int[0], 3));
        no("not refuted", t.checker.refuted);
    }

    /** The program begins the checker anew for each question: what was refuted before does not count. */
    private static void noQuestionHasAnothersRefutation() throws ReflectiveOperationException {
        RunProver prover = Tally.reading("width 2; var a; any a : 2; assert a * a != 2; assert a != 3;");
        Field field = RunProver.class.getDeclaredField("checker");
        field.setAccessible(true);
        RunProver.Checker used = (RunProver.Checker) field.get(prover);
        TALLY.due("breaks", 0, prover.breaks(0));
        yes("refuted", used.refuted);
        TALLY.due("breaks", 1, prover.breaks(1));
        no("nothing is refuted of what was found", used.refuted);
        TALLY.due("ends", 0, prover.ends(0, 0, 3));
        yes("refuted by itself", used.refuted);
        TALLY.due("reaches", 1, prover.reaches(0));
        no("nothing is refuted of what was found", used.refuted);
    }

    /** With a checker that has accepted nothing every answer that there are none is in doubt. */
    private static void doubtsAreCounted() throws ReflectiveOperationException {
        RunProver prover = Tally.reading("width 2; var a; any a : 2; assert a * a != 2; assert a != 3;");
        Field field = RunProver.class.getDeclaredField("checker");
        field.setAccessible(true);
        field.set(prover, new RunProver.Checker(new RunProver.Clauses()));
        TALLY.due("breaks", 0, prover.breaks(0));
        TALLY.due("one in doubt", 1, prover.doubts());
        TALLY.due("breaks", 1, prover.breaks(1));
        TALLY.due("prove", 1, prover.prove());
        TALLY.due("what was found is in no doubt", 1, prover.doubts());
        TALLY.due("reaches", 1, prover.reaches(1));
        TALLY.due("ends", 0, prover.ends(0, 0, 3));
        TALLY.due("two in doubt", 2, prover.doubts());
        Tally.give(prover, "width 2; assert 1;");
        prover.read();
        TALLY.due("none since the read", 0, prover.doubts());
        TALLY.due("prove", -1, prover.prove());
        TALLY.due("breaks", 0, prover.breaks(0));
        TALLY.due("two again", 2, prover.doubts());
    }

    /** A search without an answer must never come about; here: each one against all INPUTS. */
    private static void everyQuestion() {
        RunProver prover = Tally.reading("width 6; var a; var b; any a : 6; any b : 6; assert (a ^ b) == (a | b) - (a & b);"
            + " assert a - b == -(b - a); a = a * 2;");
        for (int k = 0; k < 64; k++) {
            TALLY.due("ends " + k, 1 - k % 2, prover.ends(0, 0, k));
            TALLY.due("prove", -1, prover.prove());
        }
        TALLY.due("doubts", 0, prover.doubts());
    }
}
