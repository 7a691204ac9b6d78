import java.nio.charset.StandardCharsets;
import java.util.Arrays;
import java.util.NoSuchElementException;

/** What the tests share: counting wrong answers, and giving texts to an object. */
final class Tally {
    private final String name;
    private int asked;
    private int wrong;

    Tally(String name) {
        this.name = name;
    }

    interface Call {
        int answer();
    }

    void due(String what, int want, int got) {
        asked++;
        if (got != want) {
            wrong++;
            if (wrong <= 40) {
                System.out.println(name + ": " + what + " answered " + got + ", due is " + want);
            }
        }
    }

    /** A call that must throw: 1 NoSuchElement, 2 IllegalArgument, 3 IllegalState. */
    void thrown(String what, int want, Call call) {
        int got = 0;
        try {
            call.answer();
        } catch (NoSuchElementException e) {
            got = 1;
        } catch (IllegalArgumentException e) {
            got = 2;
        } catch (IllegalStateException e) {
            got = 3;
        }
        due(what + " throws", want, got);
    }

    /** Ends the test as the document of the tests asks: exit code 1 if something was wrong. */
    void close() {
        System.out.println(name + ": " + asked + " answers, " + wrong + " wrong");
        if (wrong > 0 || asked == 0) {
            System.exit(1);
        }
    }

    static void give(RunProver prover, String text) {
        byte[] bytes = text.getBytes(StandardCharsets.ISO_8859_1);
        int before = prover.count(5);
        byte[] padded = Arrays.copyOf(bytes, (bytes.length + 19) / 20 * 20);
        for (int at = 0; at < padded.length; at += 20) {
            prover.feed(four(padded, at), four(padded, at + 4), four(padded, at + 8),
                four(padded, at + 12), four(padded, at + 16));
        }
        prover.end(before + bytes.length);
    }

    private static int four(byte[] bytes, int at) {
        return bytes[at] << 24 | (bytes[at + 1] & 255) << 16 | (bytes[at + 2] & 255) << 8
            | bytes[at + 3] & 255;
    }

    static RunProver reading(String text) {
        RunProver prover = new RunProver();
        give(prover, text);
        prover.read();
        return prover;
    }

    /** The FAULT and its place in one number. */
    static int faultOf(String text) {
        RunProver prover = reading(text);
        return prover.fault(0) * 100000 + prover.fault(1);
    }

    static String times(String part, int times) {
        return part.repeat(times);
    }
}
