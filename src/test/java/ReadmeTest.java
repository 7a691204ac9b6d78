import java.io.IOException;
import java.lang.reflect.InvocationTargetException;
import java.lang.reflect.Method;
import java.lang.reflect.Modifier;
import java.nio.ByteBuffer;
import java.nio.charset.StandardCharsets;
import java.nio.file.DirectoryStream;
import java.nio.file.Files;
import java.nio.file.Path;
import java.util.ArrayList;
import java.util.Arrays;
import java.util.List;
import java.util.regex.Matcher;
import java.util.regex.Pattern;

/** README.md is there, tells how to use the class and how to run its tests, and its answers are right. */
public final class ReadmeTest {
    private static final Tally TALLY = new Tally("ReadmeTest");
    private static final Path TESTS = Path.of("src/test/java");
    private static final Pattern TEXT = Pattern.compile("^feedAll\\(x, \"(.*)\"\\);$");
    private static final Pattern CALL = Pattern.compile("^x\\.(\\w+)\\(([-0-9, ]*)\\);\\s*// (-?\\d+)\\b.*$");

    public static void main(String[] args) throws IOException, ReflectiveOperationException {
        List<String> lines = Files.readAllLines(Path.of("README.md"));
        String use = section(lines, "## How to use it");
        String tests = section(lines, "## How to run its tests");
        for (Method method : RunProver.class.getDeclaredMethods()) {
            boolean shown = use.contains("`" + method.getName() + "(") || !Modifier.isPublic(method.getModifiers());
            holds("it tells of " + method, shown);
        }
        holds("it tells how to make an object", use.contains("new RunProver()"));
        holds("it tells of .ci/run", tests.contains(".ci/run"));
        try (DirectoryStream<Path> files = Files.newDirectoryStream(TESTS, "*Test.java")) {
            for (Path file : files) {
                String name = file.getFileName().toString().replace(".java", "");
                holds("it lists " + name, tests.contains("| " + name + " |"));
            }
        }
        holds("its way to feed is the one tried here", use.contains(ownFeeding()));
        holds("its calls were tried", examples(use) > 15);
        TALLY.close();
    }

    /** What README.md shows; it must stand here in the same words. */
    static void feedAll(RunProver x, String program) {
        byte[] text = program.getBytes(StandardCharsets.ISO_8859_1);
        ByteBuffer fed = ByteBuffer.wrap(Arrays.copyOf(text, (text.length + 19) / 20 * 20));
        int before = x.count(5);
        while (fed.hasRemaining()) {
            x.feed(fed.getInt(), fed.getInt(), fed.getInt(), fed.getInt(), fed.getInt());
        }
        x.end(before + text.length);
    }

    private static String ownFeeding() throws IOException {
        List<String> own = Files.readAllLines(TESTS.resolve("ReadmeTest.java"));
        int from = own.indexOf("    static void feedAll(RunProver x, String program) {");
        StringBuilder shown = new StringBuilder();
        for (int i = from; i < own.size() && !own.get(i).isEmpty(); i++) {
            shown.append(own.get(i).substring(4)).append('\n');
        }
        return shown.toString();
    }

    /** Does the calls of the examples and holds their answers against those that are written there. */
    private static int examples(String use) throws ReflectiveOperationException {
        RunProver x = new RunProver();
        int calls = 0;
        for (String line : use.split("\n")) {
            Matcher text = TEXT.matcher(line);
            Matcher call = CALL.matcher(line);
            if (line.equals("RunProver x = new RunProver();")) {
                x = new RunProver();
            } else if (text.matches()) {
                feedAll(x, text.group(1));
            } else if (call.matches()) {
                calls++;
                TALLY.due(line, Integer.parseInt(call.group(3)), answer(x, call.group(1), call.group(2)));
            } else {
                holds("what is no call: " + line, !line.startsWith("x."));
            }
        }
        return calls;
    }

    private static int answer(RunProver x, String name, String written) throws ReflectiveOperationException {
        List<Object> given = new ArrayList<>();
        for (String number : written.isEmpty() ? new String[0] : written.split(", ")) {
            given.add(Integer.valueOf(number));
        }
        Class<?>[] types = new Class<?>[given.size()];
        Arrays.fill(types, int.class);
        try {
            return (Integer) RunProver.class.getMethod(name, types).invoke(x, given.toArray());
        } catch (InvocationTargetException e) {
            return Integer.MIN_VALUE;
        }
    }

    private static String section(List<String> lines, String heading) {
        int from = lines.indexOf(heading);
        holds("it has " + heading, from >= 0);
        StringBuilder found = new StringBuilder();
        for (int i = from + 1; i > 0 && i < lines.size() && !lines.get(i).startsWith("## "); i++) {
            found.append(lines.get(i)).append('\n');
        }
        return found.toString();
    }

    private static void holds(String what, boolean so) {
        TALLY.due(what, 1, so ? 1 : 0);
    }
}
