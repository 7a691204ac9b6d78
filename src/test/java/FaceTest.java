import java.lang.reflect.Constructor;
import java.lang.reflect.Field;
import java.lang.reflect.Method;
import java.lang.reflect.Modifier;
import java.util.Arrays;
import java.util.Set;
import java.util.TreeSet;

/** The public face, word by word, and that nothing else can be seen of the class. */
public final class FaceTest {
    private static final Tally TALLY = new Tally("FaceTest");
    private static final String[] FACE = {
        "public int RunProver.feed(int,int,int,int,int) throws java.lang.IllegalStateException",
        "public int RunProver.end(int) throws java.lang.IllegalArgumentException",
        "public int RunProver.read()",
        "public int RunProver.fault(int)",
        "public int RunProver.prove()",
        "public int RunProver.breaks(int) throws java.util.NoSuchElementException",
        "public int RunProver.reaches(int) throws java.util.NoSuchElementException",
        "public int RunProver.ends(int,int,int) throws java.util.NoSuchElementException",
        "public int RunProver.check(int,int) throws java.util.NoSuchElementException,java.lang.IllegalArgumentException",
        "public int RunProver.input(int) throws java.util.NoSuchElementException",
        "public int RunProver.put(int,int) throws java.util.NoSuchElementException,java.lang.IllegalArgumentException",
        "public int RunProver.run()",
        "public int RunProver.value(int,int) throws java.util.NoSuchElementException",
        "public int RunProver.doubts()",
        "public int RunProver.count(int)"};

    public static void main(String[] args) {
        Set<String> due = new TreeSet<>(Arrays.asList(FACE));
        Set<String> names = new TreeSet<>();
        for (Method method : RunProver.class.getDeclaredMethods()) {
            boolean seen = !Modifier.isPrivate(method.getModifiers());
            holds(method + " is in the document", !seen || due.remove(method.toString()));
            if (seen) {
                names.add(method.getName());
            }
        }
        holds("all methods are there, not missing " + due, due.isEmpty());
        Constructor<?>[] constructors = RunProver.class.getDeclaredConstructors();
        holds("one constructor", constructors.length == 1 && constructors[0].toString().equals("public RunProver()"));
        holds("public final", RunProver.class.getModifiers() == (Modifier.PUBLIC | Modifier.FINAL));
        for (Field field : RunProver.class.getDeclaredFields()) {
            holds(field + " is private", Modifier.isPrivate(field.getModifiers()));
        }
        for (Class<?> inner : RunProver.class.getDeclaredClasses()) {
            holds(inner + " is static", Modifier.isStatic(inner.getModifiers()) && !Modifier.isPublic(inner.getModifiers()));
            for (Method method : inner.getDeclaredMethods()) {
                holds(method + " has a name of its own", !names.contains(method.getName()));
            }
            for (Field field : inner.getDeclaredFields()) {
                holds(field + " is final if it is static", !Modifier.isStatic(field.getModifiers())
                    || Modifier.isFinal(field.getModifiers()));
            }
        }
        TALLY.close();
    }

    private static void holds(String what, boolean so) {
        TALLY.due(what, 1, so ? 1 : 0);
    }
}
