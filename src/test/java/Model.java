import java.util.ArrayList;
import java.util.HashMap;
import java.util.List;
import java.util.Map;

/**
 * The document once more, in the plainest way: a tree that is run for every one of the INPUTS. It
 * shares no idea with the program but the document, so that the two can be held against each other.
 */
final class Model {
    static final class Fault extends RuntimeException {
        private static final long serialVersionUID = 1L;
        final int kind;
        final int place;

        Fault(int kind, int place) {
            super(null, null, false, false);
            this.kind = kind;
            this.place = place;
        }
    }

    private record Token(char type, String text, int place, int bad) {
    }

    static final class Node {
        String op;
        int number;
        Name name;
        List<Node> parts = new ArrayList<>();

        Node(String op) {
            this.op = op;
        }
    }

    static final class Name {
        String word;
        char kind;
        int number;
        int size = 1;
        List<String> parameters = new ArrayList<>();
        Node body;
        long bodyDepth;
        long bodyCost;
    }

    static final class Statement {
        String kind;
        Name name;
        Node index;
        Node expression;
        int number;
        int check;
        List<Statement> inner = new ArrayList<>();
        List<Statement> other = new ArrayList<>();
    }

    static final class Over extends RuntimeException {
        private static final long serialVersionUID = 1L;
        final int result;

        Over(int result) {
            super(null, null, false, false);
            this.result = result;
        }
    }

    private static final List<String> KEYWORDS = List.of("width", "var", "fun", "any", "assume",
        "assert", "if", "else", "while", "limit", "less");
    private static final String[] SIGNS = {"==", "!=", "<=", ">=", "<<", ">>", "&&", "||", ";", ",",
        ":", "?", "(", ")", "[", "]", "{", "}", "=", "<", ">", "+", "-", "*", "/", "%", "&", "|",
        "^", "~", "!"};
    private static final String[][] LEVELS = {{"||"}, {"&&"}, {"|"}, {"^"}, {"&"}, {"==", "!="},
        {"<", "<=", ">", ">="}, {"<<", ">>"}, {"+", "-"}, {"*", "/", "%"}};

    private final String text;
    private final List<Token> tokens = new ArrayList<>();
    private int at;
    private final Map<String, Name> declared = new HashMap<>();
    private int declaredCount;
    private Name function;
    private long deepest;

    int fault;
    int faultPlace;
    int width;
    final List<int[]> checks = new ArrayList<>();
    final List<Name> slots = new ArrayList<>();
    final List<Integer> inputSizes = new ArrayList<>();
    long costs;
    long bits;
    private List<Statement> statements = new ArrayList<>();

    private int[][] memory;
    private boolean[] reached;
    private int[] inputs;
    int result;

    Model(String text) {
        this.text = text;
        lex();
        try {
            parse();
        } catch (Fault f) {
            fault = f.kind;
            faultPlace = f.place;
        }
    }

    private void lex() {
        int p = 0;
        while (p < text.length()) {
            char c = text.charAt(p);
            if (c == ' ' || c == '\t' || c == '\n' || c == '\r') {
                p++;
                continue;
            }
            if (c == '#') {
                int line = text.indexOf('\n', p);
                p = line < 0 ? text.length() : line;
                continue;
            }
            Token token = lexOne(p);
            tokens.add(tokens.size() >= 8000 ? new Token('?', token.text, p, 4) : token);
            p += token.text.length();
        }
        tokens.add(new Token('$', "", text.length(), 1));
    }

    private Token lexOne(int p) {
        String rest = text.substring(p);
        String word = rest.replaceFirst("(?s)^([A-Za-z][A-Za-z0-9_]*).*", "$1");
        if (word.matches("[A-Za-z][A-Za-z0-9_]*")) {
            char type = word.length() > 31 ? '?' : KEYWORDS.contains(word) ? 'k' : 'n';
            return new Token(type, word, p, 1);
        }
        String digits = rest.replaceFirst("(?s)^([0-9]+).*", "$1");
        if (digits.matches("[0-9]+")) {
            return new Token(digits.length() > 9 ? '?' : '0', digits, p, 1);
        }
        for (String sign : SIGNS) {
            if (rest.startsWith(sign)) {
                return new Token('s', sign, p, 1);
            }
        }
        return new Token('?', rest.substring(0, 1), p, 1);
    }

    private Token now() {
        return tokens.get(at);
    }

    private boolean is(String word) {
        Token t = now();
        return (t.type == 'k' || t.type == 's') && t.text.equals(word);
    }

    private Fault wrong() {
        return new Fault(now().type == '?' ? now().bad : 1, now().place);
    }

    private void take(String word) {
        if (!is(word)) {
            throw wrong();
        }
        at++;
    }

    private int number(int least, int most) {
        if (now().type != '0') {
            throw wrong();
        }
        int n = Integer.parseInt(now().text);
        if (n < least || n > most) {
            throw new Fault(3, now().place);
        }
        at++;
        return n;
    }

    private void nested(int nest) {
        if (nest > 50) {
            throw new Fault(4, now().place);
        }
    }

    private void parse() {
        take("width");
        width = number(1, 8);
        take(";");
        while (is("var") || is("fun")) {
            boolean variable = is("var");
            at++;
            if (variable) {
                variable();
            } else {
                function();
            }
        }
        statements = statements(0);
        if (now().type != '$') {
            throw wrong();
        }
        costs = costOf(statements);
        listInputs(statements);
        if (deepest > 200 || costs > 30000 || bits > 12) {
            throw new Fault(4, text.length());
        }
    }

    private Name declare(char kind, boolean room) {
        if (now().type != 'n') {
            throw wrong();
        }
        if (declared.containsKey(now().text)) {
            throw new Fault(2, now().place);
        }
        if (declaredCount == 200 || !room) {
            throw new Fault(4, now().place);
        }
        declaredCount++;
        Name name = new Name();
        name.word = now().text;
        name.kind = kind;
        declared.put(name.word, name);
        at++;
        return name;
    }

    private void variable() {
        Name name = declare('v', true);
        if (is("[")) {
            at++;
            name.kind = 'a';
            name.size = number(1, 16);
            take("]");
        }
        take(";");
        name.number = slots.size();
        slots.add(name);
    }

    private void function() {
        Name name = declare('f', true);
        function = name;
        take("(");
        while (true) {
            Name parameter = declare('p', name.parameters.size() < 8);
            parameter.number = name.parameters.size();
            name.parameters.add(parameter.word);
            if (!is(",")) {
                break;
            }
            at++;
        }
        take(")");
        take("=");
        name.body = whole(0);
        name.bodyDepth = depthOf(name.body);
        name.bodyCost = Math.min(costOf(name.body), 1000000000);
        take(";");
        for (String parameter : name.parameters) {
            declared.remove(parameter);
        }
        function = null;
    }

    private List<Statement> statements(int nest) {
        List<Statement> list = new ArrayList<>();
        if (!is("}")) {
            nested(nest);
        }
        while (!is("}") && now().type != '$') {
            list.add(statement(nest));
        }
        return list;
    }

    private List<Statement> block(int nest) {
        take("{");
        List<Statement> list = statements(nest + 1);
        take("}");
        return list;
    }

    private int newCheck(int kind, int place) {
        if (checks.size() == 30) {
            throw new Fault(4, place);
        }
        checks.add(new int[] {kind, place});
        return checks.size() - 1;
    }

    private Statement statement(int nest) {
        Statement s = new Statement();
        Token t = now();
        if (t.type == 'n') {
            Name name = declared.get(t.text);
            if (name == null || name.kind == 'f') {
                throw new Fault(2, t.place);
            }
            s.kind = "=";
            s.name = name;
            if (name.kind == 'a') {
                s.check = newCheck(2, t.place);
                at++;
                take("[");
                s.index = whole(nest + 1);
                take("]");
            } else {
                at++;
            }
            take("=");
            s.expression = whole(nest);
            take(";");
            return s;
        }
        s.kind = t.type == 'k' ? t.text : "";
        switch (s.kind) {
            case "any":
                at++;
                if (now().type != 'n') {
                    throw wrong();
                }
                s.name = declared.get(now().text);
                if (s.name == null || s.name.kind != 'v') {
                    throw new Fault(2, now().place);
                }
                at++;
                take(":");
                s.number = number(1, width);
                take(";");
                return s;
            case "assert":
            case "assume":
                if (s.kind.equals("assert")) {
                    s.check = newCheck(1, t.place);
                }
                at++;
                s.expression = whole(nest);
                take(";");
                return s;
            case "if":
                at++;
                branch(s, nest);
                return s;
            case "while":
                s.check = newCheck(3, t.place);
                at++;
                s.expression = whole(nest);
                take("limit");
                s.number = number(0, 50);
                s.inner = block(nest);
                return s;
            default:
                throw wrong();
        }
    }

    private void branch(Statement s, int nest) {
        s.expression = whole(nest);
        s.inner = block(nest);
        if (is("else")) {
            at++;
            if (is("if")) {
                at++;
                Statement next = new Statement();
                next.kind = "if";
                branch(next, nest + 1);
                s.other.add(next);
            } else {
                s.other = block(nest);
            }
        }
    }

    private Node whole(int nest) {
        Node node = expression(nest);
        deepest = Math.max(deepest, depthOf(node));
        return node;
    }

    private Node expression(int nest) {
        nested(nest);
        Node c = binary(0, nest);
        if (!is("?")) {
            return c;
        }
        at++;
        Node node = new Node("?");
        node.parts.add(c);
        node.parts.add(expression(nest + 1));
        take(":");
        node.parts.add(expression(nest + 1));
        return node;
    }

    private Node binary(int level, int nest) {
        if (level == LEVELS.length) {
            return unary(nest);
        }
        Node left = binary(level + 1, nest);
        while (now().type == 's' && List.of(LEVELS[level]).contains(now().text)) {
            Node node = new Node(now().text);
            at++;
            node.parts.add(left);
            node.parts.add(binary(level + 1, nest));
            left = node;
        }
        return left;
    }

    private Node unary(int nest) {
        nested(nest);
        Token t = now();
        if (is("-") || is("~") || is("!")) {
            at++;
            Node node = new Node("u" + t.text);
            node.parts.add(unary(nest + 1));
            return node;
        }
        if (is("(")) {
            at++;
            Node node = expression(nest + 1);
            take(")");
            return node;
        }
        if (t.type == '0') {
            Node node = new Node("0");
            node.number = number(0, (1 << width) - 1);
            return node;
        }
        if (is("less")) {
            at++;
            Node node = new Node("less");
            take("(");
            node.parts.add(expression(nest + 1));
            take(",");
            node.parts.add(expression(nest + 1));
            take(")");
            return node;
        }
        if (t.type != 'n') {
            throw wrong();
        }
        Name name = declared.get(t.text);
        boolean fits = name != null && (function == null || name.kind == 'p' || name.kind == 'f')
            && name != function;
        if (!fits) {
            throw new Fault(2, t.place);
        }
        at++;
        Node node = new Node(String.valueOf(name.kind));
        node.name = name;
        if (name.kind == 'a') {
            take("[");
            node.parts.add(expression(nest + 1));
            take("]");
        } else if (name.kind == 'f') {
            arguments(node, t.place, nest);
        }
        return node;
    }

    private void arguments(Node node, int place, int nest) {
        take("(");
        int wanted = node.name.parameters.size();
        while (true) {
            node.parts.add(expression(nest + 1));
            boolean full = node.parts.size() == wanted;
            if (is(",") && full || is(")") && !full) {
                throw new Fault(2, place);
            }
            if (!is(",")) {
                break;
            }
            at++;
        }
        take(")");
    }

    private long depthOf(Node node) {
        if (node.parts.isEmpty()) {
            return 1;
        }
        long[] depths = new long[node.parts.size()];
        long deep = node.op.equals("f") ? node.name.bodyDepth : 0;
        for (int i = 0; i < depths.length; i++) {
            depths[i] = depthOf(node.parts.get(i));
            deep = Math.max(deep, depths[i]);
        }
        return isBinary(node) ? Math.max(depths[0], 1 + depths[1]) : 1 + deep;
    }

    private static boolean isBinary(Node node) {
        return node.parts.size() == 2 && !node.op.equals("less") && !node.op.equals("f");
    }

    private long costOf(Node node) {
        long sum = 0;
        for (Node part : node.parts) {
            sum += costOf(part);
        }
        int w = width;
        switch (node.op) {
            case "0":
            case "v":
            case "p":
            case "u~":
                return sum;
            case "&":
            case "|":
            case "^":
            case "u!":
            case "&&":
            case "||":
                return sum + 3 * w;
            case "==":
            case "!=":
                return sum + 4 * w;
            case "<<":
            case ">>":
                return sum + 16 * w;
            case "*":
                return sum + 16 * w * w;
            case "/":
            case "%":
                return sum + 24 * w * w;
            case "?":
                return sum + 5 * w;
            case "a":
                return sum + 9 * node.name.size * w;
            case "f":
                return sum + 1 + node.name.bodyCost;
            default:
                return sum + 12 * w;
        }
    }

    private long costOf(List<Statement> list) {
        long sum = 0;
        for (Statement s : list) {
            sum += 8;
            long expression = s.expression == null ? 0 : costOf(s.expression);
            switch (s.kind) {
                case "=":
                    sum += expression + (s.index == null ? 4 * width
                        : costOf(s.index) + 9 * s.name.size * width);
                    break;
                case "any":
                    sum += 4 * width;
                    break;
                case "if":
                    sum += 3 * width + expression + costOf(s.inner) + costOf(s.other);
                    break;
                case "while":
                    sum += (3 * width + expression) * (s.number + 1) + s.number * costOf(s.inner);
                    break;
                default:
                    sum += 3 * width + expression;
                    break;
            }
            sum = Math.min(sum, 1000000000);
        }
        return sum;
    }

    private void listInputs(List<Statement> list) {
        for (Statement s : list) {
            if (bits > 12) {
                return;
            }
            if (s.kind.equals("any")) {
                inputSizes.add(s.number);
                bits += s.number;
            } else if (s.kind.equals("if")) {
                listInputs(s.inner);
                listInputs(s.other);
            } else if (s.kind.equals("while")) {
                for (int r = 0; r < s.number && bits <= 12 && drawn(s.inner) > 0; r++) {
                    listInputs(s.inner);
                }
            }
        }
    }

    private int drawn(List<Statement> list) {
        int sum = 0;
        for (Statement s : list) {
            sum += s.kind.equals("any") ? 1 : s.kind.equals("if") ? drawn(s.inner) + drawn(s.other)
                : s.kind.equals("while") ? Math.min(s.number * drawn(s.inner), 1000) : 0;
        }
        return sum;
    }

    /** Runs with these INPUTS; what came of it stands in the fields then. */
    void run(int[] with) {
        inputs = with;
        reached = new boolean[checks.size()];
        memory = new int[slots.size()][];
        for (int n = 0; n < memory.length; n++) {
            memory[n] = new int[slots.get(n).size];
        }
        try {
            result = -1;
            run(statements, 0);
        } catch (Over over) {
            result = over.result;
        }
    }

    int held(int n, int e) {
        return memory[n][e];
    }

    boolean came(int check) {
        return reached[check];
    }

    private void run(List<Statement> list, int base) {
        int input = base;
        for (Statement s : list) {
            switch (s.kind) {
                case "=":
                    set(s);
                    break;
                case "any":
                    memory[s.name.number][0] = inputs[input];
                    break;
                case "assume":
                    if (eval(s.expression, null) == 0) {
                        throw new Over(-2);
                    }
                    break;
                case "assert":
                    reached[s.check] = true;
                    if (eval(s.expression, null) == 0) {
                        throw new Over(s.check);
                    }
                    break;
                case "if":
                    if (eval(s.expression, null) != 0) {
                        run(s.inner, input);
                    } else {
                        run(s.other, input + drawn(s.inner));
                    }
                    break;
                default:
                    loop(s, input);
                    break;
            }
            input += drawn(List.of(s));
        }
    }

    private void set(Statement s) {
        int index = 0;
        if (s.index != null) {
            reached[s.check] = true;
            index = eval(s.index, null);
            if (index >= s.name.size) {
                throw new Over(s.check);
            }
        }
        memory[s.name.number][index] = eval(s.expression, null);
    }

    private void loop(Statement s, int base) {
        for (int r = 0; r < s.number; r++) {
            if (eval(s.expression, null) == 0) {
                return;
            }
            run(s.inner, base + r * drawn(s.inner));
        }
        reached[s.check] = true;
        if (eval(s.expression, null) != 0) {
            throw new Over(s.check);
        }
    }

    private int eval(Node node, int[] frame) {
        int[] v = new int[node.parts.size()];
        for (int i = 0; i < v.length; i++) {
            v[i] = eval(node.parts.get(i), frame);
        }
        return apply(node, v, frame) & (1 << width) - 1;
    }

    private int apply(Node node, int[] v, int[] frame) {
        int a = v.length > 0 ? v[0] : 0;
        int b = v.length > 1 ? v[1] : 0;
        int half = 1 << width - 1;
        switch (node.op) {
            case "0": return node.number;
            case "v": return memory[node.name.number][0];
            case "p": return frame[node.name.number];
            case "a": return a < node.name.size ? memory[node.name.number][a] : 0;
            case "f": return eval(node.name.body, v);
            case "u-": return -a;
            case "u~": return ~a;
            case "u!": return a == 0 ? 1 : 0;
            case "less": return (a ^ half) < (b ^ half) ? 1 : 0;
            case "?": return a != 0 ? b : v[2];
            case "||": return a != 0 || b != 0 ? 1 : 0;
            case "&&": return a != 0 && b != 0 ? 1 : 0;
            case "|": return a | b;
            case "^": return a ^ b;
            case "&": return a & b;
            case "==": return a == b ? 1 : 0;
            case "!=": return a != b ? 1 : 0;
            case "<": return a < b ? 1 : 0;
            case "<=": return a <= b ? 1 : 0;
            case ">": return a > b ? 1 : 0;
            case ">=": return a >= b ? 1 : 0;
            case "<<": return b >= width ? 0 : a << b;
            case ">>": return b >= width ? 0 : a >> b;
            case "+": return a + b;
            case "-": return a - b;
            case "*": return a * b;
            case "/": return b == 0 ? -1 : a / b;
            case "%": return b == 0 ? a : a % b;
            default: throw new IllegalStateException(node.op);
        }
    }

    /** All INPUTS from the least on: the one with this number among them. */
    int[] inputsAt(int number) {
        int[] with = new int[inputSizes.size()];
        int rest = number;
        for (int i = with.length - 1; i >= 0; i--) {
            with[i] = rest & (1 << inputSizes.get(i)) - 1;
            rest >>= inputSizes.get(i);
        }
        return with;
    }
}
