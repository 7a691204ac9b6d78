import java.io.IOException;
import java.lang.reflect.Field;
import java.lang.reflect.Method;
import java.lang.reflect.Modifier;
import java.nio.file.Files;
import java.nio.file.Path;
import java.util.ArrayList;
import java.util.Arrays;
import java.util.HashSet;
import java.util.List;
import java.util.Set;
import java.util.regex.Matcher;
import java.util.regex.Pattern;

/** Those of LANGUAGE.md's rules that can be seen in the program's lines or by reflection. */
public final class LanguageTest {
    private static final Tally TALLY = new Tally("LanguageTest");
    private static final int MOST_CLASSES = 12;
    private static final int MOST_FIELDS = 21;
    private static final int MOST_LINES = 60;
    private static final int MOST_PARAMETERS = 7;
    private static final Set<String> IMPORTS = Set.of("java.util.Arrays", "java.util.NoSuchElementException");
    private static final Set<String> LIBRARY = Set.of("Math.min", "Math.max", "Arrays.fill",
        "System.arraycopy", "KEYWORDS.length", "KEYWORDS.charAt", "SIGNS.length", "SIGNS.charAt");
    private static final Set<String> REFUSED = Set.of("finally", "synchronized", "assert", "try", "catch",
        "volatile", "native", "transient", "instanceof", "double", "float", "extends", "implements", "var",
        "Thread", "Object", "Runtime", "Random", "File", "hashCode", "equals", "toString", "getClass");

    public static void main(String[] args) throws IOException {
        List<String> lines = Files.readAllLines(Path.of("src/main/java/RunProver.java"));
        List<String> code = withoutRemarks(lines);
        words(code);
        calls(code);
        exceptions(code);
        lengths(code);
        members();
        TALLY.close();
    }

    /** The lines without remarks, and with nothing inside their texts and characters. */
    private static List<String> withoutRemarks(List<String> lines) {
        List<String> code = new ArrayList<>();
        boolean remark = false;
        for (String line : lines) {
            String left = line.replaceAll("'(\\\\.|[^'])'", "' '").replaceAll("\"[^\"]*\"", "\"\"");
            if (!remark && left.strip().startsWith("/*")) {
                remark = true;
            }
            code.add(remark ? "" : left.replaceAll("//.*", ""));
            if (left.contains("*/")) {
                remark = false;
            }
        }
        return code;
    }

    /** Rules 2, 3, 4, 6 and 13: words and signs that do not stand in the program. */
    private static void words(List<String> code) {
        for (String line : code) {
            if (line.startsWith("import ")) {
                String what = line.substring(7, line.length() - 1);
                holds("rule 4: import of " + what, IMPORTS.contains(what));
            }
            holds("rule 2: a lambda or a reference in " + line, !line.contains("->") && !line.contains("::"));
            for (String word : line.split("\\W+")) {
                holds("a word that is refused in " + line, !REFUSED.contains(word));
            }
        }
        holds("no package", code.stream().noneMatch(line -> line.startsWith("package ")));
    }

    /** Rule 4: what is called of the library. */
    private static void calls(List<String> code) {
        Pattern call = Pattern.compile("\\b([A-Z]\\w*\\.[a-z]\\w*)\\(");
        for (String line : code) {
            Matcher found = call.matcher(line);
            while (found.find()) {
                boolean own = found.group(1).startsWith("RunProver.");
                holds("rule 4: " + found.group(1), own || LIBRARY.contains(found.group(1)));
            }
        }
    }

    /** Rule 6: what is thrown, and that only calls of the face throw. */
    private static void exceptions(List<String> code) {
        Pattern due = Pattern.compile("\\s*throw new (IllegalState|IllegalArgument|NoSuchElement)Exception\\(\"\"\\);");
        boolean inner = false;
        for (String line : code) {
            inner = inner || line.contains("static final class ");
            if (line.contains("throw ")) {
                holds("rule 6: " + line.strip(), due.matcher(line).matches() && !inner);
            }
        }
    }

    /** Rule 11: no method is longer than some sixty lines. */
    private static void lengths(List<String> code) {
        int from = -1;
        int methods = 0;
        for (int i = 0; i < code.size(); i++) {
            String line = code.get(i);
            int edge = line.length() - line.stripLeading().length();
            boolean opens = line.endsWith(") {") || line.contains(") throws ") && line.endsWith(" {");
            if (from < 0 && opens && (edge == 4 || edge == 8) && !line.contains(" class ") && !isFlow(line)) {
                from = i;
            } else if (from >= 0 && line.strip().equals("}") && edge == indent(code.get(from))) {
                holds("rule 11: lines of " + code.get(from).strip(), i - from + 1 <= MOST_LINES);
                methods++;
                from = -1;
            }
        }
        holds("methods were found: " + methods, methods > 150);
    }

    private static boolean isFlow(String line) {
        return line.strip().matches("(if|for|while|switch|\\}).*");
    }

    private static int indent(String line) {
        return line.length() - line.stripLeading().length();
    }

    /** Rules 1, 2, 5 and 11: classes, their fields and the parameters of their methods. */
    private static void members() {
        List<Class<?>> classes = new ArrayList<>(Arrays.asList(RunProver.class.getDeclaredClasses()));
        classes.add(RunProver.class);
        holds("rule 11: " + classes.size() + " classes", classes.size() <= MOST_CLASSES);
        Set<Class<?>> own = new HashSet<>(classes);
        for (Class<?> one : classes) {
            int fields = 0;
            for (Field field : one.getDeclaredFields()) {
                boolean constant = Modifier.isStatic(field.getModifiers());
                fields += constant ? 0 : 1;
                holds("rule 5: " + field, !constant || Modifier.isFinal(field.getModifiers()));
                holds("rule 3: " + field, isKnown(field.getType(), own));
            }
            holds("rule 11: " + fields + " fields in " + one, fields <= MOST_FIELDS);
            for (Method method : one.getDeclaredMethods()) {
                holds("rule 11: " + method, method.getParameterCount() <= MOST_PARAMETERS);
            }
        }
    }

    private static boolean isKnown(Class<?> type, Set<Class<?>> own) {
        return type == int.class || type == boolean.class || type == int[].class || type == byte[].class
            || type == String.class || own.contains(type);
    }

    private static void holds(String what, boolean so) {
        TALLY.due(what, 1, so ? 1 : 0);
    }
}
