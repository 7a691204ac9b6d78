import java.util.Arrays;
import java.util.NoSuchElementException;

/**
 * A verifier of programs over small numbers. The TEXT is unrolled into a circuit of its INPUTS, a
 * question about it becomes clauses, and these are searched with clauses that are learnt on the
 * way; a checker goes through every one of them before it counts.
 */
public final class RunProver {
    private static final int TAPE_ROOM = 65536;
    private static final int FED_BYTES = 20;

    private final byte[] tape = new byte[TAPE_ROOM];
    private final Program program = new Program();
    private final Parser parser = new Parser(program, tape);
    private final Gates gates = new Gates();
    private final Unroller unroller = new Unroller(program, gates);
    private final Clauses clauses = new Clauses();
    private final Checker checker = new Checker(clauses);
    private final Search search = new Search(clauses, checker);
    private final int[] inputs = new int[Unroller.MOST_BITS];
    private final int[] goals = new int[Program.MOST_CHECKS];
    private int goalCount;
    private int tapeLength;
    private int faultKind;
    private int faultPlace;
    private boolean hasText;
    private int unproved;

    public RunProver() {
    }

    public int feed(int a, int b, int c, int d, int e) throws IllegalStateException {
        if (tapeLength > TAPE_ROOM - FED_BYTES) {
            throw new IllegalStateException("no room for 20 bytes");
        }
        store(a);
        store(b);
        store(c);
        store(d);
        store(e);
        return tapeLength;
    }

    private void store(int number) {
        for (int shift = 24; shift >= 0; shift -= 8) {
            tape[tapeLength] = (byte) (number >> shift);
            tapeLength++;
        }
    }

    public int end(int n) throws IllegalArgumentException {
        if (n < 0 || n > tapeLength) {
            throw new IllegalArgumentException("not 0 .. the length of the tape");
        }
        tapeLength = n;
        return n;
    }

    public int read() {
        Arrays.fill(inputs, 0);
        unproved = 0;
        parser.parse(tapeLength);
        faultKind = parser.tokens.faultKind;
        faultPlace = parser.tokens.faultPlace;
        tapeLength = 0;
        hasText = faultKind == 0;
        if (!hasText) {
            program.clear();
        }
        unroller.begin();
        unroller.walk(program.first, 0);
        return hasText ? program.checks : -1;
    }

    public int fault(int what) {
        switch (what) {
            case 0:
                return faultKind;
            case 1:
                return faultPlace;
            default:
                return -1;
        }
    }

    public int prove() {
        if (!hasText) {
            return -1;
        }
        goalCount = 0;
        for (int c = 0; c < program.checks; c++) {
            addGoal(unroller.broken[c]);
        }
        return possible(false) ? brokenCheck() : -1;
    }

    public int breaks(int check) throws NoSuchElementException {
        if (check < 0 || check >= program.checks) {
            throw new NoSuchElementException("no such check");
        }
        goalCount = 0;
        addGoal(unroller.broken[check]);
        return possible(true) ? 1 : 0;
    }

    public int reaches(int check) throws NoSuchElementException {
        if (check < 0 || check >= program.checks) {
            throw new NoSuchElementException("no such check");
        }
        goalCount = 0;
        addGoal(unroller.reached[check]);
        return possible(true) ? 1 : 0;
    }

    public int ends(int n, int e, int value) throws NoSuchElementException {
        if (!program.hasElement(n, e) || value < 0 || value >= 1 << program.width) {
            throw new NoSuchElementException("no such element or value");
        }
        goalCount = 0;
        addGoal(unroller.on);
        int cell = (program.slotFirst[n] + e) * Words.STRIDE;
        for (int bit = 0; bit < program.width; bit++) {
            int turned = 1 - (value >> bit & 1);
            addGoal(unroller.cells[cell + bit] ^ turned);
        }
        return possible(true) ? 1 : 0;
    }

    public int check(int check, int what) throws NoSuchElementException, IllegalArgumentException {
        if (check < 0 || check >= program.checks) {
            throw new NoSuchElementException("no such check");
        }
        if (what != 0 && what != 1) {
            throw new IllegalArgumentException("neither kind nor place");
        }
        return what == 0 ? program.checkKinds[check] : program.checkPlaces[check];
    }

    public int input(int i) throws NoSuchElementException {
        if (i < 0 || i >= unroller.inputCount) {
            throw new NoSuchElementException("no such input");
        }
        return inputs[i];
    }

    public int put(int i, int value) throws NoSuchElementException, IllegalArgumentException {
        if (i < 0 || i >= unroller.inputCount) {
            throw new NoSuchElementException("no such input");
        }
        if (value < 0 || value >= 1 << unroller.inputSizes[i]) {
            throw new IllegalArgumentException("more bits than the input has");
        }
        int before = inputs[i];
        inputs[i] = value;
        return before;
    }

    public int run() {
        if (!hasText) {
            return -3;
        }
        int broken = brokenCheck();
        if (broken >= 0) {
            return broken;
        }
        return gates.holds(unroller.on) ? -1 : -2;
    }

    public int value(int n, int e) throws NoSuchElementException {
        if (!program.hasElement(n, e)) {
            throw new NoSuchElementException("no such element");
        }
        simulate();
        int cell = (program.slotFirst[n] + e) * Words.STRIDE;
        int held = 0;
        for (int bit = 0; bit < program.width; bit++) {
            held |= gates.holds(unroller.cells[cell + bit]) ? 1 << bit : 0;
        }
        return held;
    }

    public int doubts() {
        return unproved;
    }

    public int count(int what) {
        switch (what) {
            case 0:
                return program.checks;
            case 1:
                return unroller.inputCount;
            case 2:
                return unroller.bitCount;
            case 3:
                return program.slots;
            case 4:
                return program.costs;
            case 5:
                return tapeLength;
            case 6:
                return program.width;
            default:
                return -1;
        }
    }

    /** A goal that is there already would stand twice in one clause, which the watches can't have. */
    private void addGoal(int literal) {
        for (int g = 0; g < goalCount; g++) {
            if (goals[g] == literal) {
                return;
            }
        }
        if (goalCount < goals.length) {
            goals[goalCount] = literal;
            goalCount++;
        }
    }

    /** Whether INPUTS meet all the goals, or one of them; the least such are taken. */
    private boolean possible(boolean all) {
        gates.want(goals, goalCount);
        clauses.begin(goals, goalCount, all);
        clauses.addGates(gates);
        boolean found = search.solve(gates.size, unroller.bitNodes, unroller.bitCount);
        if (found) {
            takeInputs();
        } else if (!checker.refuted) {
            unproved++;
        }
        return found;
    }

    private void takeInputs() {
        int at = 0;
        for (int i = 0; i < unroller.inputCount; i++) {
            int taken = 0;
            for (int bit = 0; bit < unroller.inputSizes[i]; bit++) {
                taken = taken << 1 | (search.isTrue(unroller.bitNodes[at] << 1) ? 1 : 0);
                at++;
            }
            inputs[i] = taken;
        }
    }

    private void simulate() {
        int at = 0;
        for (int i = 0; i < unroller.inputCount; i++) {
            for (int bit = unroller.inputSizes[i] - 1; bit >= 0; bit--) {
                gates.truth[unroller.bitNodes[at]] = (byte) (inputs[i] >> bit & 1);
                at++;
            }
        }
        gates.settle();
    }

    private int brokenCheck() {
        simulate();
        for (int c = 0; c < program.checks; c++) {
            if (gates.holds(unroller.broken[c])) {
                return c;
            }
        }
        return -1;
    }

    /** The TEXT cut into WORDS, NUMBERS and signs, a cursor on one of them, and the first FAULT. */
    static final class Tokens {
        /** What the cursor shows behind a FAULT: it fits nowhere, so every loop over tokens ends. */
        static final int STOP = 0;
        static final int END = 1;
        static final int BAD = 2;
        static final int NAME = 3;
        static final int NUMBER = 4;
        static final int WIDTH = 5;
        static final int VAR = 6;
        static final int FUN = 7;
        static final int ANY = 8;
        static final int ASSUME = 9;
        static final int ASSERT = 10;
        static final int IF = 11;
        static final int ELSE = 12;
        static final int WHILE = 13;
        static final int LIMIT = 14;
        static final int LESS = 15;
        static final int SEMICOLON = 16;
        static final int COMMA = 17;
        static final int COLON = 18;
        static final int QUESTION = 19;
        static final int OPEN = 20;
        static final int CLOSE = 21;
        static final int OPEN_INDEX = 22;
        static final int CLOSE_INDEX = 23;
        static final int OPEN_BLOCK = 24;
        static final int CLOSE_BLOCK = 25;
        static final int ASSIGN = 26;
        static final int EQUAL = 27;
        static final int UNEQUAL = 28;
        static final int BELOW = 29;
        static final int AT_MOST = 30;
        static final int ABOVE = 31;
        static final int AT_LEAST = 32;
        static final int SHIFT_LEFT = 33;
        static final int SHIFT_RIGHT = 34;
        static final int PLUS = 35;
        static final int MINUS = 36;
        static final int TIMES = 37;
        static final int DIVIDE = 38;
        static final int REST = 39;
        static final int AND = 40;
        static final int BOTH = 41;
        static final int OR = 42;
        static final int EITHER = 43;
        static final int XOR = 44;
        static final int INVERT = 45;
        static final int NOT = 46;
        /** The first WORD, NUMBER or sign that is too many, whatever it is. */
        static final int TOO_MANY = 47;

        static final int MOST = 8000;
        static final int MOST_NESTED = 50;
        private static final int LONGEST_WORD = 31;
        private static final int LONGEST_NUMBER = 9;
        /** In the order of the kinds from WIDTH on, each closed by a semicolon. */
        private static final String KEYWORDS =
            "width;var;fun;any;assume;assert;if;else;while;limit;less;";
        private static final String SIGNS = ";,:?()[]{}=<>+-*/%&|^~!";
        private static final int[] SIGN_KINDS = {SEMICOLON, COMMA, COLON, QUESTION, OPEN, CLOSE,
            OPEN_INDEX, CLOSE_INDEX, OPEN_BLOCK, CLOSE_BLOCK, ASSIGN, BELOW, ABOVE, PLUS, MINUS,
            TIMES, DIVIDE, REST, AND, OR, XOR, INVERT, NOT};

        private final int[] kinds = new int[MOST + 2];
        private final int[] places = new int[MOST + 2];
        /** The length of a WORD, the value of a NUMBER. */
        private final int[] details = new int[MOST + 2];
        private final byte[] text;
        private int length;
        private int amount;
        private int at;
        /** What stands at the cursor. */
        int kind;
        int place;
        int detail;
        int faultKind;
        int faultPlace;

        Tokens(byte[] text) {
            this.text = text;
        }

        void begin(int textLength) {
            length = Math.min(textLength, text.length);
            amount = 0;
            faultKind = 0;
            faultPlace = 0;
            int next = behindBlanks(0);
            while (next < length && amount <= MOST) {
                next = behindBlanks(cut(next));
            }
            if (amount > MOST) {
                kinds[MOST] = TOO_MANY;
            }
            kinds[amount] = END;
            places[amount] = length;
            at = -1;
            advance();
        }

        void advance() {
            if (faultKind == 0 && at < amount) {
                at++;
                kind = kinds[at];
                place = places[at];
                detail = details[at];
            }
        }

        void fail(int fault, int where) {
            if (faultKind == 0) {
                faultKind = fault;
                faultPlace = where;
            }
            kind = STOP;
        }

        void refuse() {
            fail(misfit(), place);
        }

        /** The FAULT of what can't stand at the cursor. */
        private int misfit() {
            return kind == TOO_MANY ? 4 : 1;
        }

        void take(int wanted) {
            if (kind == wanted) {
                advance();
            } else {
                fail(misfit(), place);
            }
        }

        int takeNumber(int least, int most) {
            int taken = detail;
            if (kind != NUMBER) {
                fail(misfit(), place);
            } else if (taken < least || taken > most) {
                fail(3, place);
            } else {
                advance();
                return taken;
            }
            return least;
        }

        boolean tooDeep(int nest) {
            if (nest > MOST_NESTED) {
                fail(4, place);
            }
            return nest > MOST_NESTED;
        }

        private int behindBlanks(int from) {
            boolean remark = false;
            for (int i = from; i < length; i++) {
                int sign = text[i];
                if (remark) {
                    remark = sign != '\n';
                } else if (sign == '#') {
                    remark = true;
                } else if (sign != ' ' && sign != '\t' && sign != '\n' && sign != '\r') {
                    return i;
                }
            }
            return length;
        }

        /** Takes in what starts at a place: where it ends. */
        private int cut(int from) {
            int first = text[from];
            int stop = from + 1;
            places[amount] = from;
            if (isLetter(first)) {
                stop = wordEnd(from);
                details[amount] = stop - from;
                kinds[amount] = stop - from > LONGEST_WORD ? BAD : wordKind(from, stop - from);
            } else if (isDigit(first)) {
                stop = numberEnd(from);
                details[amount] = stop - from > LONGEST_NUMBER ? 0 : numberIn(from, stop);
                kinds[amount] = stop - from > LONGEST_NUMBER ? BAD : NUMBER;
            } else {
                int second = stop < length ? text[stop] : 0;
                int pair = pairKind(first, second);
                stop += pair != BAD ? 1 : 0;
                kinds[amount] = pair != BAD ? pair : signKind(first);
            }
            amount++;
            return stop;
        }

        private int wordEnd(int from) {
            int stop = from;
            while (stop < length && (isLetter(text[stop]) || isDigit(text[stop]) || text[stop] == '_')) {
                stop++;
            }
            return stop;
        }

        private int numberEnd(int from) {
            int stop = from;
            while (stop < length && isDigit(text[stop])) {
                stop++;
            }
            return stop;
        }

        private int numberIn(int from, int stop) {
            int number = 0;
            for (int i = from; i < stop; i++) {
                number = number * 10 + (text[i] - '0');
            }
            return number;
        }

        private int wordKind(int from, int size) {
            int candidate = WIDTH;
            int matched = 0;
            boolean same = true;
            for (int i = 0; i < KEYWORDS.length(); i++) {
                char sign = KEYWORDS.charAt(i);
                if (sign != ';') {
                    same = same && matched < size && text[from + matched] == sign;
                    matched++;
                } else if (same && matched == size) {
                    return candidate;
                } else {
                    candidate++;
                    matched = 0;
                    same = true;
                }
            }
            return NAME;
        }

        private static int pairKind(int first, int second) {
            switch (first) {
                case '=':
                    return second == '=' ? EQUAL : BAD;
                case '!':
                    return second == '=' ? UNEQUAL : BAD;
                case '<':
                    return second == '=' ? AT_MOST : second == '<' ? SHIFT_LEFT : BAD;
                case '>':
                    return second == '=' ? AT_LEAST : second == '>' ? SHIFT_RIGHT : BAD;
                case '&':
                    return second == '&' ? BOTH : BAD;
                case '|':
                    return second == '|' ? EITHER : BAD;
                default:
                    return BAD;
            }
        }

        private static int signKind(int sign) {
            for (int i = 0; i < SIGNS.length(); i++) {
                if (SIGNS.charAt(i) == sign) {
                    return SIGN_KINDS[i];
                }
            }
            return BAD;
        }

        /** Whether the WORD at the cursor is the one that stands at another place. */
        boolean sameWord(int where, int wordSize) {
            if (wordSize != detail) {
                return false;
            }
            for (int i = 0; i < wordSize; i++) {
                if (text[where + i] != text[place + i]) {
                    return false;
                }
            }
            return true;
        }

        private static boolean isLetter(int sign) {
            return sign >= 'a' && sign <= 'z' || sign >= 'A' && sign <= 'Z';
        }

        private static boolean isDigit(int sign) {
            return sign >= '0' && sign <= '9';
        }
    }

    /** The NAMES that are declared, with what each one stands for. */
    static final class Names {
        static final int NONE = 0;
        static final int VARIABLE = 1;
        static final int ARRAY = 2;
        static final int FUNCTION = 3;
        static final int PARAMETER = 4;
        /** A FUNCTION whose EXPRESSION is being read: declared, but not to be called. */
        static final int UNFINISHED = 5;
        static final int MOST = 200;

        private final int[] places = new int[MOST];
        private final int[] sizes = new int[MOST];
        private final int[] kinds = new int[MOST];
        private final int[] numbers = new int[MOST];
        int amount;

        /** The NAME at the cursor, -1 if it is not declared. */
        int find(Tokens tokens) {
            for (int n = amount - 1; n >= 0; n--) {
                if (kinds[n] != NONE && tokens.sameWord(places[n], sizes[n])) {
                    return n;
                }
            }
            return -1;
        }

        int kindOf(int name) {
            return name < 0 || name >= amount ? NONE : kinds[name];
        }

        int numberOf(int name) {
            return name < 0 || name >= amount ? 0 : numbers[name];
        }

        /** Takes the NAME at the cursor in, if it may be declared there: its index, else -1. */
        int declare(Tokens tokens, int kind, boolean room) {
            if (tokens.kind != Tokens.NAME) {
                tokens.refuse();
            } else if (find(tokens) >= 0) {
                tokens.fail(2, tokens.place);
            } else if (amount >= MOST || !room) {
                tokens.fail(4, tokens.place);
            } else {
                places[amount] = tokens.place;
                sizes[amount] = tokens.detail;
                kinds[amount] = kind;
                numbers[amount] = 0;
                amount++;
                tokens.advance();
                return amount - 1;
            }
            return -1;
        }

        void define(int name, int kind, int number) {
            if (name >= 0 && name < amount) {
                kinds[name] = kind;
                numbers[name] = number;
            }
        }

        /** PARAMETERS stay in the row, as they count among the NAMES, but are not found any more. */
        void forgetFrom(int name) {
            for (int n = name; n < amount; n++) {
                kinds[n] = NONE;
            }
        }
    }

    /** What was read: STATEMENTS as rows of numbers, EXPRESSIONS as code for a machine with a stack. */
    static final class Program {
        static final int MOST_CHECKS = 30;
        static final int MOST_STATEMENTS = 2700;
        static final int LONGEST_ARRAY = 16;
        static final int MOST_PARAMETERS = 8;
        static final int KIND_ASSERT = 1;
        static final int KIND_ARRAY = 2;
        static final int KIND_WHILE = 3;

        static final int SET = 1;
        static final int SET_ELEMENT = 2;
        static final int DRAW = 3;
        static final int ASSUME = 4;
        static final int ASSERT = 5;
        static final int BRANCH = 6;
        static final int LOOP = 7;

        /** A STATEMENT's row: what it is, */
        static final int KIND = 0;
        /** the variable or ARRAY that it sets, */
        static final int SLOT = 1;
        /** its CHECK, */
        static final int CHECK = 2;
        /** a NUMBER: bits of an INPUT, rounds of a while, */
        static final int AMOUNT = 3;
        /** its code, that of an index first, and where each part ends, */
        static final int FROM = 4;
        static final int MIDDLE = 5;
        static final int TO = 6;
        /** the first STATEMENTS of its BLOCKS, and the one behind it. */
        static final int INNER = 7;
        static final int OTHER = 8;
        static final int NEXT = 9;
        private static final int ROW = 10;

        /** A FUNCTION's row. */
        static final int BODY_FROM = 0;
        static final int BODY_TO = 1;
        static final int PARAMETERS = 2;
        static final int COST = 3;
        static final int DEPTH = 4;
        private static final int FUNCTION_ROW = 5;

        /** Codes of operands and of what no sign stands for; the rest are the kinds of the signs. */
        static final int PUSH_NUMBER = 1;
        static final int PUSH_VARIABLE = 2;
        static final int PUSH_PARAMETER = 3;
        static final int PUSH_ELEMENT = 4;
        static final int CALL = 5;
        static final int NEGATE = 6;
        static final int CHOOSE = 7;
        static final int SIGNED_BELOW = 8;

        private final int[] rows = new int[MOST_STATEMENTS * ROW];
        private final int[] functions = new int[Names.MOST * FUNCTION_ROW];
        final int[] codes = new int[Tokens.MOST];
        final int[] operands = new int[Tokens.MOST];
        final int[] slotFirst = new int[Names.MOST];
        final int[] slotSize = new int[Names.MOST];
        final int[] checkKinds = new int[MOST_CHECKS];
        final int[] checkPlaces = new int[MOST_CHECKS];
        int statements;
        int functionCount;
        int codeSize;
        int slots;
        int elements;
        int checks;
        int width;
        int costs;
        int first = -1;

        void clear() {
            statements = 0;
            functionCount = 0;
            codeSize = 0;
            slots = 0;
            elements = 0;
            checks = 0;
            width = 0;
            costs = 0;
            first = -1;
        }

        boolean hasElement(int slot, int element) {
            return slot >= 0 && slot < slots && element >= 0 && element < slotSize[slot];
        }

        int addSlot(int size) {
            if (slots >= Names.MOST) {
                return 0;
            }
            slotFirst[slots] = elements;
            slotSize[slots] = size;
            elements += size;
            slots++;
            return slots - 1;
        }

        int addFunction(int from, int parameters, int cost, int depth) {
            if (functionCount >= Names.MOST) {
                return 0;
            }
            int at = functionCount * FUNCTION_ROW;
            functions[at + BODY_FROM] = from;
            functions[at + BODY_TO] = codeSize;
            functions[at + PARAMETERS] = parameters;
            functions[at + COST] = cost;
            functions[at + DEPTH] = depth;
            functionCount++;
            return functionCount - 1;
        }

        int ofFunction(int function, int what) {
            return functions[function * FUNCTION_ROW + what];
        }

        int addStatement(int kind) {
            if (statements >= MOST_STATEMENTS) {
                return -1;
            }
            int at = statements * ROW;
            Arrays.fill(rows, at, at + ROW, -1);
            rows[at + KIND] = kind;
            rows[at + FROM] = codeSize;
            rows[at + MIDDLE] = codeSize;
            rows[at + TO] = codeSize;
            statements++;
            return statements - 1;
        }

        int get(int statement, int what) {
            return rows[statement * ROW + what];
        }

        void set(int statement, int what, int to) {
            if (statement >= 0) {
                rows[statement * ROW + what] = to;
            }
        }

        void emit(int code, int operand) {
            if (codeSize < codes.length) {
                codes[codeSize] = code;
                operands[codeSize] = operand;
                codeSize++;
            }
        }
    }

    /** Reads EXPRESSIONS into code, and tells their COSTS and DEPTHS. */
    static final class Expressions {
        static final int MOST_COST = 1000000;
        /** At most one operator of each of ten levels waits at each of the levels of nesting. */
        private static final int MOST_WAITING = 10 * (Tokens.MOST_NESTED + 2);

        private final Tokens tokens;
        private final Names names;
        private final Program program;
        private final int[] waiting = new int[MOST_WAITING];
        private final int[] waitingDepth = new int[MOST_WAITING];
        private int waitingCount;
        boolean inFunction;
        int cost;
        /** The greatest DEPTH so far. */
        int deepest;

        Expressions(Tokens tokens, Names names, Program program) {
            this.tokens = tokens;
            this.names = names;
            this.program = program;
        }

        void begin() {
            waitingCount = 0;
            inFunction = false;
            cost = 0;
            deepest = 0;
        }

        /** COSTS above the limit need no exact number, but must not run over. */
        void addCost(int amount) {
            cost = Math.min(cost + Math.min(amount, MOST_COST), MOST_COST);
        }

        /** Reads an EXPRESSION: its DEPTH. */
        private int expression(int nest) {
            int base = waitingCount;
            int depth = operand(nest);
            for (int k = 0; k < Tokens.MOST && level(tokens.kind) > 0; k++) {
                depth = settle(base, level(tokens.kind), depth);
                hold(tokens.kind, depth);
                tokens.advance();
                depth = operand(nest);
            }
            depth = settle(base, 1, depth);
            if (tokens.kind == Tokens.QUESTION) {
                depth = choice(nest, depth);
            }
            deepest = Math.max(deepest, depth);
            return depth;
        }

        private void hold(int operator, int depth) {
            if (waitingCount < MOST_WAITING) {
                waiting[waitingCount] = operator;
                waitingDepth[waitingCount] = depth;
                waitingCount++;
            }
        }

        /** Lets the waiting operators that bind at least so tightly have their right operand. */
        private int settle(int base, int level, int depth) {
            int settled = depth;
            while (waitingCount > base && level(waiting[waitingCount - 1]) >= level) {
                waitingCount--;
                settled = Math.max(waitingDepth[waitingCount], settled + 1);
                program.emit(waiting[waitingCount], 0);
                addCost(signCost(waiting[waitingCount]));
            }
            return settled;
        }

        private int choice(int nest, int depth) {
            tokens.advance();
            int within = Math.max(depth, expression(nest + 1));
            tokens.take(Tokens.COLON);
            within = Math.max(within, expression(nest + 1));
            program.emit(Program.CHOOSE, 0);
            addCost(5 * program.width);
            return within + 1;
        }

        private int operand(int nest) {
            if (tokens.tooDeep(nest)) {
                return 0;
            }
            int kind = tokens.kind;
            switch (kind) {
                case Tokens.MINUS:
                case Tokens.INVERT:
                case Tokens.NOT:
                    return turned(kind, nest);
                case Tokens.OPEN:
                    return bracketed(Tokens.OPEN, Tokens.CLOSE, nest);
                case Tokens.NUMBER:
                    program.emit(Program.PUSH_NUMBER, tokens.takeNumber(0, (1 << program.width) - 1));
                    return 1;
                case Tokens.LESS:
                    return signedBelow(nest);
                case Tokens.NAME:
                    return named(nest);
                default:
                    tokens.refuse();
                    return 0;
            }
        }

        private int turned(int sign, int nest) {
            tokens.advance();
            int depth = operand(nest + 1);
            program.emit(sign == Tokens.MINUS ? Program.NEGATE : sign, 0);
            addCost(signCost(sign));
            return depth + 1;
        }

        private int bracketed(int open, int close, int nest) {
            tokens.take(open);
            int depth = expression(nest + 1);
            tokens.take(close);
            return depth;
        }

        private int signedBelow(int nest) {
            tokens.advance();
            tokens.take(Tokens.OPEN);
            int depth = expression(nest + 1);
            tokens.take(Tokens.COMMA);
            depth = Math.max(depth, expression(nest + 1));
            tokens.take(Tokens.CLOSE);
            program.emit(Program.SIGNED_BELOW, 0);
            addCost(12 * program.width);
            return depth + 1;
        }

        private int named(int nest) {
            int name = names.find(tokens);
            int kind = names.kindOf(name);
            int number = names.numberOf(name);
            int place = tokens.place;
            if (!mayStand(kind)) {
                tokens.fail(2, place);
                return 0;
            }
            tokens.advance();
            switch (kind) {
                case Names.VARIABLE:
                    program.emit(Program.PUSH_VARIABLE, number);
                    return 1;
                case Names.PARAMETER:
                    program.emit(Program.PUSH_PARAMETER, number);
                    return 1;
                case Names.ARRAY:
                    int depth = bracketed(Tokens.OPEN_INDEX, Tokens.CLOSE_INDEX, nest);
                    program.emit(Program.PUSH_ELEMENT, number);
                    addCost(9 * program.slotSize[number] * program.width);
                    return depth + 1;
                default:
                    return call(number, place, nest);
            }
        }

        private boolean mayStand(int kind) {
            if (inFunction) {
                return kind == Names.PARAMETER || kind == Names.FUNCTION;
            }
            return kind == Names.VARIABLE || kind == Names.ARRAY || kind == Names.FUNCTION;
        }

        private int call(int function, int place, int nest) {
            int wanted = program.ofFunction(function, Program.PARAMETERS);
            int within = program.ofFunction(function, Program.DEPTH);
            int given = 0;
            tokens.take(Tokens.OPEN);
            boolean more = true;
            while (more && given < Program.MOST_PARAMETERS) {
                within = Math.max(within, expression(nest + 1));
                given++;
                more = tokens.kind == Tokens.COMMA && given < wanted;
                if (more) {
                    tokens.advance();
                }
            }
            boolean tooMany = tokens.kind == Tokens.COMMA;
            if (tooMany || tokens.kind == Tokens.CLOSE && given < wanted) {
                tokens.fail(2, place);
            }
            tokens.take(Tokens.CLOSE);
            program.emit(Program.CALL, function);
            addCost(1 + program.ofFunction(function, Program.COST));
            return within + 1;
        }

        /** How tightly a sign between two operands binds, from 1; 0 if it is none such. */
        private static int level(int sign) {
            switch (sign) {
                case Tokens.EITHER:
                    return 1;
                case Tokens.BOTH:
                    return 2;
                case Tokens.OR:
                    return 3;
                case Tokens.XOR:
                    return 4;
                case Tokens.AND:
                    return 5;
                case Tokens.EQUAL:
                case Tokens.UNEQUAL:
                    return 6;
                case Tokens.BELOW:
                case Tokens.AT_MOST:
                case Tokens.ABOVE:
                case Tokens.AT_LEAST:
                    return 7;
                case Tokens.SHIFT_LEFT:
                case Tokens.SHIFT_RIGHT:
                    return 8;
                case Tokens.PLUS:
                case Tokens.MINUS:
                    return 9;
                case Tokens.TIMES:
                case Tokens.DIVIDE:
                case Tokens.REST:
                    return 10;
                default:
                    return 0;
            }
        }

        private int signCost(int sign) {
            int w = program.width;
            switch (sign) {
                case Tokens.INVERT:
                    return 0;
                case Tokens.AND:
                case Tokens.OR:
                case Tokens.XOR:
                case Tokens.NOT:
                case Tokens.BOTH:
                case Tokens.EITHER:
                    return 3 * w;
                case Tokens.EQUAL:
                case Tokens.UNEQUAL:
                    return 4 * w;
                case Tokens.SHIFT_LEFT:
                case Tokens.SHIFT_RIGHT:
                    return 16 * w;
                case Tokens.TIMES:
                    return 16 * w * w;
                case Tokens.DIVIDE:
                case Tokens.REST:
                    return 24 * w * w;
                default:
                    return 12 * w;
            }
        }
    }

    /** Reads a TEXT into a Program. */
    static final class Parser {
        private static final int MOST_COSTS = 30000;
        private static final int MOST_DEPTH = 200;
        private static final int MOST_LIMIT = 50;
        private static final int STATEMENT_COST = 8;

        final Tokens tokens;
        private final Names names = new Names();
        private final Program program;
        private final Expressions expressions;
        private int bits;

        Parser(Program program, byte[] text) {
            this.program = program;
            tokens = new Tokens(text);
            expressions = new Expressions(tokens, names, program);
        }

        void parse(int length) {
            program.clear();
            names.amount = 0;
            expressions.begin();
            bits = 0;
            tokens.begin(length);
            tokens.take(Tokens.WIDTH);
            program.width = tokens.takeNumber(1, Words.STRIDE);
            tokens.take(Tokens.SEMICOLON);
            declarations();
            program.first = statements(0);
            if (tokens.kind != Tokens.END) {
                tokens.refuse();
            }
            program.costs = expressions.cost;
            if (expressions.deepest > MOST_DEPTH || program.costs > MOST_COSTS
                || bits > Unroller.MOST_BITS) {
                tokens.fail(4, length);
            }
        }

        private void declarations() {
            for (int k = 0; k < Tokens.MOST; k++) {
                if (tokens.kind == Tokens.VAR) {
                    variable();
                } else if (tokens.kind == Tokens.FUN) {
                    function();
                } else {
                    return;
                }
            }
        }

        private void variable() {
            tokens.advance();
            int name = names.declare(tokens, Names.VARIABLE, true);
            int kind = Names.VARIABLE;
            int size = 1;
            if (tokens.kind == Tokens.OPEN_INDEX) {
                tokens.advance();
                size = tokens.takeNumber(1, Program.LONGEST_ARRAY);
                tokens.take(Tokens.CLOSE_INDEX);
                kind = Names.ARRAY;
            }
            tokens.take(Tokens.SEMICOLON);
            names.define(name, kind, program.addSlot(size));
        }

        private void function() {
            tokens.advance();
            int name = names.declare(tokens, Names.UNFINISHED, true);
            tokens.take(Tokens.OPEN);
            int firstParameter = names.amount;
            int parameters = parameters();
            tokens.take(Tokens.CLOSE);
            tokens.take(Tokens.ASSIGN);
            int from = program.codeSize;
            expressions.inFunction = true;
            int depth = expressions.expression(0);
            expressions.inFunction = false;
            tokens.take(Tokens.SEMICOLON);
            names.forgetFrom(firstParameter);
            names.define(name, Names.FUNCTION,
                program.addFunction(from, parameters, expressions.cost, depth));
            expressions.cost = 0;
        }

        private int parameters() {
            boolean more = true;
            int amount = 0;
            for (; more && amount <= Program.MOST_PARAMETERS; amount++) {
                int name = names.declare(tokens, Names.PARAMETER, amount < Program.MOST_PARAMETERS);
                names.define(name, Names.PARAMETER, amount);
                more = tokens.kind == Tokens.COMMA;
                if (more) {
                    tokens.advance();
                }
            }
            return amount;
        }

        /** Reads STATEMENTS up to a } or the end: the first one, -1 if there is none. */
        private int statements(int nest) {
            if (tokens.kind == Tokens.CLOSE_BLOCK || tokens.tooDeep(nest)) {
                return -1;
            }
            int first = -1;
            int last = -1;
            for (int k = 0; k < Tokens.MOST && goesOn(); k++) {
                int statement = statement(nest);
                if (first < 0) {
                    first = statement;
                }
                program.set(last, Program.NEXT, statement);
                last = statement;
            }
            return first;
        }

        private boolean goesOn() {
            return tokens.kind != Tokens.CLOSE_BLOCK && tokens.kind != Tokens.END
                && tokens.kind != Tokens.STOP;
        }

        private int statement(int nest) {
            expressions.addCost(STATEMENT_COST);
            switch (tokens.kind) {
                case Tokens.NAME:
                    return setting(nest);
                case Tokens.ANY:
                    return drawing();
                case Tokens.ASSUME:
                    return claim(Program.ASSUME, nest);
                case Tokens.ASSERT:
                    int check = addCheck(Program.KIND_ASSERT);
                    int statement = claim(Program.ASSERT, nest);
                    program.set(statement, Program.CHECK, check);
                    return statement;
                case Tokens.IF:
                    tokens.advance();
                    return branch(nest);
                case Tokens.WHILE:
                    return loop(nest);
                default:
                    tokens.refuse();
                    return -1;
            }
        }

        /** A CHECK at the cursor: its number. */
        private int addCheck(int kind) {
            if (program.checks >= Program.MOST_CHECKS) {
                tokens.fail(4, tokens.place);
                return 0;
            }
            program.checkKinds[program.checks] = kind;
            program.checkPlaces[program.checks] = tokens.place;
            program.checks++;
            return program.checks - 1;
        }

        private int setting(int nest) {
            int name = names.find(tokens);
            int kind = names.kindOf(name);
            int slot = names.numberOf(name);
            if (kind != Names.VARIABLE && kind != Names.ARRAY) {
                tokens.fail(2, tokens.place);
                return -1;
            }
            boolean array = kind == Names.ARRAY;
            int statement = program.addStatement(array ? Program.SET_ELEMENT : Program.SET);
            program.set(statement, Program.SLOT, slot);
            if (array) {
                program.set(statement, Program.CHECK, addCheck(Program.KIND_ARRAY));
            }
            tokens.advance();
            if (array) {
                tokens.take(Tokens.OPEN_INDEX);
                expressions.expression(nest + 1);
                tokens.take(Tokens.CLOSE_INDEX);
                program.set(statement, Program.MIDDLE, program.codeSize);
            }
            tokens.take(Tokens.ASSIGN);
            expressions.expression(nest);
            program.set(statement, Program.TO, program.codeSize);
            tokens.take(Tokens.SEMICOLON);
            expressions.addCost((array ? 9 * program.slotSize[slot] : 4) * program.width);
            return statement;
        }

        private int drawing() {
            int statement = program.addStatement(Program.DRAW);
            tokens.advance();
            if (tokens.kind != Tokens.NAME) {
                tokens.refuse();
                return -1;
            }
            int name = names.find(tokens);
            if (names.kindOf(name) != Names.VARIABLE) {
                tokens.fail(2, tokens.place);
                return -1;
            }
            program.set(statement, Program.SLOT, names.numberOf(name));
            tokens.advance();
            tokens.take(Tokens.COLON);
            int amount = tokens.takeNumber(1, program.width);
            program.set(statement, Program.AMOUNT, amount);
            tokens.take(Tokens.SEMICOLON);
            bits += amount;
            expressions.addCost(4 * program.width);
            return statement;
        }

        private int claim(int kind, int nest) {
            int statement = program.addStatement(kind);
            tokens.advance();
            condition(statement, nest);
            tokens.take(Tokens.SEMICOLON);
            return statement;
        }

        private void condition(int statement, int nest) {
            expressions.expression(nest);
            program.set(statement, Program.TO, program.codeSize);
            expressions.addCost(3 * program.width);
        }

        /** Reads what stands behind an if. */
        private int branch(int nest) {
            int statement = program.addStatement(Program.BRANCH);
            condition(statement, nest);
            program.set(statement, Program.INNER, block(nest));
            if (tokens.kind == Tokens.ELSE) {
                tokens.advance();
                program.set(statement, Program.OTHER, alternative(nest));
            }
            return statement;
        }

        private int alternative(int nest) {
            if (tokens.kind != Tokens.IF) {
                return block(nest);
            }
            tokens.advance();
            expressions.addCost(STATEMENT_COST);
            return branch(nest + 1);
        }

        private int block(int nest) {
            tokens.take(Tokens.OPEN_BLOCK);
            int first = statements(nest + 1);
            tokens.take(Tokens.CLOSE_BLOCK);
            return first;
        }

        private int loop(int nest) {
            int statement = program.addStatement(Program.LOOP);
            program.set(statement, Program.CHECK, addCheck(Program.KIND_WHILE));
            tokens.advance();
            int costBefore = expressions.cost;
            int bitsBefore = bits;
            expressions.cost = 0;
            condition(statement, nest);
            int conditionCost = expressions.cost;
            tokens.take(Tokens.LIMIT);
            int limit = tokens.takeNumber(0, MOST_LIMIT);
            program.set(statement, Program.AMOUNT, limit);
            expressions.cost = 0;
            bits = 0;
            program.set(statement, Program.INNER, block(nest));
            int innerCost = expressions.cost;
            expressions.cost = costBefore;
            expressions.addCost(conditionCost * (limit + 1));
            expressions.addCost(innerCost * limit);
            bits = Math.min(bitsBefore + bits * limit, Expressions.MOST_COST);
            return statement;
        }
    }

    /**
     * The circuit. A literal is twice a node, and one more if it is turned; node 0 is the constant.
     * Every node stands behind those it is made of.
     */
    static final class Gates {
        static final int FALSE = 0;
        static final int TRUE = 1;
        static final int SOURCE = 0;
        static final int AND = 1;
        static final int XOR = 2;
        static final int MUX = 3;
        /** COSTS of 30,000 make fewer gates than that: none has more than one gate for each of them. */
        static final int MOST = 32768;
        private static final int TABLE = 65536;

        final byte[] kinds = new byte[MOST];
        final int[] first = new int[MOST];
        final int[] second = new int[MOST];
        final int[] third = new int[MOST];
        final byte[] truth = new byte[MOST];
        final byte[] wanted = new byte[MOST];
        private final int[] table = new int[TABLE];
        private final int[] behind = new int[MOST];
        int size = 1;

        void clear() {
            Arrays.fill(table, 0);
            size = 1;
        }

        /** A node for one bit of an INPUT. */
        int addSource() {
            if (size >= MOST) {
                return 0;
            }
            kinds[size] = SOURCE;
            size++;
            return size - 1;
        }

        int and(int a, int b) {
            int low = Math.min(a, b);
            int high = Math.max(a, b);
            if (low == FALSE || (low ^ high) == 1) {
                return FALSE;
            }
            if (low == TRUE || low == high) {
                return high;
            }
            return gate(AND, low, high, 0);
        }

        int or(int a, int b) {
            return and(a ^ 1, b ^ 1) ^ 1;
        }

        int xor(int a, int b) {
            int turned = (a ^ b) & 1;
            int low = Math.min(a, b) & ~1;
            int high = Math.max(a, b) & ~1;
            if (low == high) {
                return turned;
            }
            if (low == FALSE) {
                return high ^ turned;
            }
            return gate(XOR, low, high, 0) ^ turned;
        }

        /** The one literal if the choice is true, else the other. */
        int mux(int choice, int one, int other) {
            int swap = (choice & 1) != 0 ? one ^ other : 0;
            int c = choice & ~1;
            int a = one ^ swap;
            int b = other ^ swap;
            if (a == b || c == FALSE) {
                return b;
            }
            if (a == TRUE || a == c) {
                return and(c ^ 1, b ^ 1) ^ 1;
            }
            if (a == FALSE || a == (c ^ 1)) {
                return and(c ^ 1, b);
            }
            if (b == FALSE || b == c) {
                return and(c, a);
            }
            if (b == TRUE || b == (c ^ 1)) {
                return and(c, a ^ 1) ^ 1;
            }
            if ((a ^ b) == 1) {
                return xor(c, b);
            }
            int turned = a & 1;
            return gate(MUX, c, a ^ turned, b ^ turned) ^ turned;
        }

        /** The same gate is made only once, so that what is equal by its making is seen as equal. */
        private int gate(int kind, int a, int b, int c) {
            int mixed = ((a * 31 + b) * 31 + c) * 31 + kind;
            int slot = (mixed ^ mixed >>> 15) & TABLE - 1;
            int node = table[slot];
            for (int k = 0; node > 0 && k < MOST; k++) {
                if (kinds[node] == kind && first[node] == a && second[node] == b && third[node] == c) {
                    return node << 1;
                }
                node = behind[node];
            }
            if (size >= MOST) {
                return FALSE;
            }
            kinds[size] = (byte) kind;
            first[size] = a;
            second[size] = b;
            third[size] = c;
            behind[size] = table[slot];
            table[slot] = size;
            size++;
            return size - 1 << 1;
        }

        boolean holds(int literal) {
            return (truth[literal >> 1] ^ literal & 1) != 0;
        }

        /** Works out every gate from the sources' truths. */
        void settle() {
            truth[0] = 0;
            for (int n = 1; n < size; n++) {
                int a = first[n];
                int b = second[n];
                switch (kinds[n]) {
                    case AND:
                        truth[n] = (byte) (bit(a) & bit(b));
                        break;
                    case XOR:
                        truth[n] = (byte) (bit(a) ^ bit(b));
                        break;
                    case MUX:
                        truth[n] = (byte) bit(bit(a) != 0 ? b : third[n]);
                        break;
                    default:
                        break;
                }
            }
        }

        private int bit(int literal) {
            return truth[literal >> 1] ^ literal & 1;
        }

        /** Marks the nodes that the goals hang on: no other one can matter to them. */
        void want(int[] goals, int amount) {
            Arrays.fill(wanted, 0, size, (byte) 0);
            for (int g = 0; g < amount; g++) {
                wanted[goals[g] >> 1] = 1;
            }
            for (int n = size - 1; n > 0; n--) {
                if (wanted[n] != 0 && kinds[n] != SOURCE) {
                    wanted[first[n] >> 1] = 1;
                    wanted[second[n] >> 1] = 1;
                    if (kinds[n] == MUX) {
                        wanted[third[n] >> 1] = 1;
                    }
                }
            }
        }
    }

    /** Arithmetic on rows of literals, the lowest bit first, that lie on a stack. */
    static final class Words {
        static final int STRIDE = 8;
        /** A DEPTH of 200, and at each level no more than eight arguments of a FUNCTION that wait. */
        private static final int MOST_ROWS = 1700;

        private final Gates gates;
        private final int[] rows = new int[MOST_ROWS * STRIDE];
        private final int[] result = new int[STRIDE];
        private final int[] difference = new int[STRIDE];
        private final int[] tree = new int[Program.LONGEST_ARRAY * STRIDE];
        int width;
        int top;

        Words(Gates gates) {
            this.gates = gates;
        }

        void begin(int wordWidth) {
            width = wordWidth;
            top = 0;
        }

        private int newRow() {
            if (top < MOST_ROWS) {
                top++;
            }
            return (top - 1) * STRIDE;
        }

        void pushNumber(int number) {
            int row = newRow();
            for (int bit = 0; bit < width; bit++) {
                rows[row + bit] = number >> bit & 1;
            }
        }

        void pushFrom(int[] cells, int from) {
            System.arraycopy(cells, from, rows, newRow(), width);
        }

        void pushCopy(int depth) {
            if (depth >= 0 && depth < top) {
                pushFrom(rows, depth * STRIDE);
            }
        }

        /** Takes the top row off: where its literals still stand. */
        int drop() {
            if (top > 0) {
                top--;
            }
            return top * STRIDE;
        }

        /** Puts the top row in the place of all from a certain one on. */
        void sink(int depth) {
            int row = drop();
            System.arraycopy(rows, row, rows, depth * STRIDE, width);
            top = depth + 1;
        }

        int literal(int row, int bit) {
            return rows[row + bit];
        }

        /** Whether the top row, which is taken off, is not 0. */
        int dropTruth() {
            return truthOf(drop());
        }

        private int truthOf(int row) {
            int none = Gates.TRUE;
            for (int bit = 0; bit < width; bit++) {
                none = gates.and(none, rows[row + bit] ^ 1);
            }
            return none ^ 1;
        }

        private void setTruth(int row, int literal) {
            Arrays.fill(rows, row, row + width, Gates.FALSE);
            rows[row] = literal;
        }

        /** Puts what a sign makes of the top rows in their place. */
        void apply(int code) {
            int b = (top - 1) * STRIDE;
            int a = b - STRIDE;
            switch (code) {
                case Program.NEGATE:
                    negate(b);
                    return;
                case Tokens.INVERT:
                    invert(b);
                    return;
                case Tokens.NOT:
                    setTruth(b, truthOf(b) ^ 1);
                    return;
                case Program.CHOOSE:
                    choose(a - STRIDE, a, b);
                    top -= 2;
                    return;
                case Tokens.PLUS:
                case Tokens.MINUS:
                    add(a, b, code == Tokens.MINUS ? Gates.TRUE : Gates.FALSE);
                    break;
                case Tokens.TIMES:
                    multiply(a, b);
                    break;
                case Tokens.DIVIDE:
                case Tokens.REST:
                    divide(a, b, code == Tokens.REST);
                    break;
                case Tokens.SHIFT_LEFT:
                case Tokens.SHIFT_RIGHT:
                    shift(a, b, code == Tokens.SHIFT_LEFT);
                    break;
                case Tokens.AND:
                case Tokens.OR:
                case Tokens.XOR:
                    bitwise(code, a, b);
                    break;
                case Tokens.BOTH:
                case Tokens.EITHER:
                    join(code, a, b);
                    break;
                case Tokens.EQUAL:
                case Tokens.UNEQUAL:
                    compareEqual(code, a, b);
                    break;
                default:
                    compareOrder(code, a, b);
                    break;
            }
            top--;
        }

        private void invert(int a) {
            for (int bit = 0; bit < width; bit++) {
                rows[a + bit] ^= 1;
            }
        }

        private void join(int code, int a, int b) {
            int one = truthOf(a);
            int other = truthOf(b);
            setTruth(a, code == Tokens.BOTH ? gates.and(one, other) : gates.or(one, other));
        }

        private void bitwise(int code, int a, int b) {
            for (int bit = 0; bit < width; bit++) {
                int x = rows[a + bit];
                int y = rows[b + bit];
                rows[a + bit] = code == Tokens.AND ? gates.and(x, y)
                    : code == Tokens.OR ? gates.or(x, y) : gates.xor(x, y);
            }
        }

        private void compareEqual(int code, int a, int b) {
            int same = Gates.TRUE;
            for (int bit = 0; bit < width; bit++) {
                same = gates.and(same, gates.xor(rows[a + bit], rows[b + bit]) ^ 1);
            }
            setTruth(a, code == Tokens.EQUAL ? same : same ^ 1);
        }

        /** The highest bit that differs tells which is less; with a sign it is turned there. */
        private void compareOrder(int code, int a, int b) {
            boolean tie = code == Tokens.AT_MOST || code == Tokens.ABOVE;
            boolean turned = code == Tokens.ABOVE || code == Tokens.AT_LEAST;
            int less = tie ? Gates.TRUE : Gates.FALSE;
            for (int bit = 0; bit < width; bit++) {
                int x = rows[a + bit];
                int y = rows[b + bit];
                boolean sign = code == Program.SIGNED_BELOW && bit == width - 1;
                less = gates.mux(gates.xor(x, y), sign ? x : y, less);
            }
            setTruth(a, turned ? less ^ 1 : less);
        }

        /** a + b, or a - b, which is a + ~b + 1. */
        private void add(int a, int b, int minus) {
            int carry = minus;
            for (int bit = 0; bit < width; bit++) {
                int x = rows[a + bit];
                int half = gates.xor(x, rows[b + bit] ^ minus);
                rows[a + bit] = gates.xor(half, carry);
                carry = gates.mux(half, carry, x);
            }
        }

        private void negate(int a) {
            int carry = Gates.TRUE;
            for (int bit = 0; bit < width; bit++) {
                int x = rows[a + bit] ^ 1;
                rows[a + bit] = gates.xor(x, carry);
                carry = gates.and(x, carry);
            }
        }

        private void multiply(int a, int b) {
            Arrays.fill(result, Gates.FALSE);
            for (int row = 0; row < width; row++) {
                int carry = Gates.FALSE;
                for (int bit = row; bit < width; bit++) {
                    int x = result[bit];
                    int half = gates.xor(x, gates.and(rows[a + bit - row], rows[b + row]));
                    result[bit] = gates.xor(half, carry);
                    carry = gates.mux(half, carry, x);
                }
            }
            System.arraycopy(result, 0, rows, a, width);
        }

        /**
         * Long division; a divisor of 0 fits every time, which gives what the document asks. The rest
         * is never above what was taken of a, so it has no more bits than that.
         */
        private void divide(int a, int b, boolean rest) {
            Arrays.fill(result, Gates.FALSE);
            for (int taken = 1; taken <= width; taken++) {
                for (int bit = taken - 1; bit > 0; bit--) {
                    result[bit] = result[bit - 1];
                }
                result[0] = rows[a + width - taken];
                int borrow = Gates.FALSE;
                for (int bit = 0; bit < taken; bit++) {
                    int y = rows[b + bit];
                    int differs = gates.xor(result[bit], y);
                    difference[bit] = gates.xor(differs, borrow);
                    borrow = gates.mux(differs, y, borrow);
                }
                for (int bit = taken; bit < width; bit++) {
                    borrow = gates.or(borrow, rows[b + bit]);
                }
                rows[a + width - taken] = borrow ^ 1;
                for (int bit = 0; bit < taken; bit++) {
                    result[bit] = gates.mux(borrow, result[bit], difference[bit]);
                }
            }
            if (rest) {
                System.arraycopy(result, 0, rows, a, width);
            }
        }

        /** Bits of b that weigh W or more leave nothing; each other one moves a by its weight. */
        private void shift(int a, int b, boolean left) {
            int gone = Gates.FALSE;
            for (int bit = 0; bit < width; bit++) {
                int choice = rows[b + bit];
                int distance = 1 << bit;
                if (distance >= width) {
                    gone = gates.or(gone, choice);
                }
                for (int k = 0; k < width && distance < width; k++) {
                    int to = left ? width - 1 - k : k;
                    int from = left ? to - distance : to + distance;
                    int moved = from >= 0 && from < width ? rows[a + from] : Gates.FALSE;
                    rows[a + to] = gates.mux(choice, moved, rows[a + to]);
                }
            }
            for (int bit = 0; bit < width; bit++) {
                rows[a + bit] = gates.and(rows[a + bit], gone ^ 1);
            }
        }

        private void choose(int a, int b, int c) {
            int choice = truthOf(a);
            for (int bit = 0; bit < width; bit++) {
                rows[a + bit] = gates.mux(choice, rows[b + bit], rows[c + bit]);
            }
        }

        /** Puts the ELEMENT that the top row is the index of in its place: each bit halves the choice. */
        void select(int[] cells, int from, int size) {
            int index = (top - 1) * STRIDE;
            Arrays.fill(tree, Gates.FALSE);
            System.arraycopy(cells, from, tree, 0, size * STRIDE);
            int beyond = Gates.FALSE;
            int left = size;
            for (int bit = 0; bit < width; bit++) {
                int choice = rows[index + bit];
                if (left == 1) {
                    beyond = gates.or(beyond, choice);
                } else {
                    left = left + 1 >> 1;
                    for (int i = 0; i < left * STRIDE; i++) {
                        int even = i + i / STRIDE * STRIDE;
                        tree[i] = gates.mux(choice, tree[even + STRIDE], tree[even]);
                    }
                    Arrays.fill(tree, left * STRIDE, tree.length, Gates.FALSE);
                }
            }
            for (int bit = 0; bit < width; bit++) {
                rows[index + bit] = gates.and(tree[bit], beyond ^ 1);
            }
        }

        /** Whether a row is this number. */
        int isNumber(int row, int number) {
            int same = Gates.TRUE;
            for (int bit = width - 1; bit >= 0; bit--) {
                same = gates.and(same, rows[row + bit] ^ 1 ^ number >> bit & 1);
            }
            return same;
        }

        /** Whether a row is below a number, which may be one that no row can reach. */
        int isBelow(int row, int number) {
            if (number >= 1 << width) {
                return Gates.TRUE;
            }
            int less = Gates.FALSE;
            for (int bit = 0; bit < width; bit++) {
                int x = rows[row + bit];
                less = (number >> bit & 1) != 0 ? gates.or(x ^ 1, less) : gates.and(x ^ 1, less);
            }
            return less;
        }
    }

    /** Walks through the UNROLLED TEXT and builds the circuit of its RUN. */
    static final class Unroller {
        static final int MOST_BITS = 12;
        private static final int MOST_CALLS = 201;
        private static final int MOST_STEPS = 100000000;

        private final Program program;
        private final Gates gates;
        private final Words words;
        private final int[] callAt = new int[MOST_CALLS];
        private final int[] callStop = new int[MOST_CALLS];
        private final int[] callFrame = new int[MOST_CALLS];
        /** The literals of all variables and ELEMENTS. */
        final int[] cells = new int[Names.MOST * Program.LONGEST_ARRAY * Words.STRIDE];
        /** Whether the RUN is here now; behind the walk: whether it came to the TEXT's end. */
        int on;
        final int[] broken = new int[Program.MOST_CHECKS];
        final int[] reached = new int[Program.MOST_CHECKS];
        final int[] inputSizes = new int[MOST_BITS];
        int inputCount;
        /** The nodes of the INPUTS' bits, those that weigh most first. */
        final int[] bitNodes = new int[MOST_BITS];
        int bitCount;

        Unroller(Program program, Gates gates) {
            this.program = program;
            this.gates = gates;
            words = new Words(gates);
        }

        void begin() {
            gates.clear();
            words.begin(program.width);
            Arrays.fill(cells, 0, program.elements * Words.STRIDE, Gates.FALSE);
            Arrays.fill(broken, Gates.FALSE);
            Arrays.fill(reached, Gates.FALSE);
            on = Gates.TRUE;
            inputCount = 0;
            bitCount = 0;
        }

        private void walk(int first, int nest) {
            int statement = nest > Tokens.MOST_NESTED ? -1 : first;
            for (int k = 0; statement >= 0 && k < Program.MOST_STATEMENTS; k++) {
                if (program.get(statement, Program.KIND) == Program.LOOP) {
                    loop(statement, nest);
                } else {
                    int middle = program.get(statement, Program.MIDDLE);
                    evaluate(program.get(statement, Program.FROM), middle);
                    evaluate(middle, program.get(statement, Program.TO));
                    act(statement, nest);
                }
                statement = program.get(statement, Program.NEXT);
            }
        }

        /** Does a STATEMENT whose EXPRESSIONS lie on the stack. */
        private void act(int statement, int nest) {
            switch (program.get(statement, Program.KIND)) {
                case Program.SET:
                    set(program.get(statement, Program.SLOT));
                    break;
                case Program.SET_ELEMENT:
                    setElement(program.get(statement, Program.SLOT), program.get(statement, Program.CHECK));
                    break;
                case Program.DRAW:
                    draw(program.get(statement, Program.SLOT), program.get(statement, Program.AMOUNT));
                    break;
                case Program.ASSUME:
                    on = gates.and(on, words.dropTruth());
                    break;
                case Program.ASSERT:
                    demand(program.get(statement, Program.CHECK), words.dropTruth());
                    break;
                default:
                    branch(statement, nest);
                    break;
            }
        }

        private void demand(int check, int kept) {
            reached[check] = gates.or(reached[check], on);
            broken[check] = gates.or(broken[check], gates.and(on, kept ^ 1));
            on = gates.and(on, kept);
        }

        private void set(int slot) {
            int row = words.drop();
            int cell = program.slotFirst[slot] * Words.STRIDE;
            for (int bit = 0; bit < program.width; bit++) {
                cells[cell + bit] = gates.mux(on, words.literal(row, bit), cells[cell + bit]);
            }
        }

        private void setElement(int slot, int check) {
            int row = words.drop();
            int index = words.drop();
            int size = program.slotSize[slot];
            demand(check, words.isBelow(index, size));
            for (int e = 0; e < size && e < 1 << program.width; e++) {
                int here = gates.and(on, words.isNumber(index, e));
                int cell = (program.slotFirst[slot] + e) * Words.STRIDE;
                for (int bit = 0; bit < program.width; bit++) {
                    cells[cell + bit] = gates.mux(here, words.literal(row, bit), cells[cell + bit]);
                }
            }
        }

        private void draw(int slot, int bits) {
            int cell = program.slotFirst[slot] * Words.STRIDE;
            if (bitCount + bits > MOST_BITS) {
                return;
            }
            inputSizes[inputCount] = bits;
            inputCount++;
            for (int bit = program.width - 1; bit >= 0; bit--) {
                int drawn = Gates.FALSE;
                if (bit < bits) {
                    bitNodes[bitCount] = gates.addSource();
                    drawn = bitNodes[bitCount] << 1;
                    bitCount++;
                }
                cells[cell + bit] = gates.mux(on, drawn, cells[cell + bit]);
            }
        }

        private void branch(int statement, int nest) {
            int condition = words.dropTruth();
            int otherwise = gates.and(on, condition ^ 1);
            on = gates.and(on, condition);
            walk(program.get(statement, Program.INNER), nest + 1);
            int behind = on;
            on = otherwise;
            walk(program.get(statement, Program.OTHER), nest + 1);
            on = gates.or(behind, on);
        }

        private void loop(int statement, int nest) {
            int limit = program.get(statement, Program.AMOUNT);
            int from = program.get(statement, Program.FROM);
            int to = program.get(statement, Program.TO);
            int left = Gates.FALSE;
            for (int round = 0; round < limit; round++) {
                evaluate(from, to);
                int condition = words.dropTruth();
                left = gates.or(left, gates.and(on, condition ^ 1));
                on = gates.and(on, condition);
                walk(program.get(statement, Program.INNER), nest + 1);
            }
            evaluate(from, to);
            demand(program.get(statement, Program.CHECK), words.dropTruth() ^ 1);
            on = gates.or(left, on);
        }

        /** Runs the code of an EXPRESSION, if there is any: its row is on the stack then. */
        private void evaluate(int from, int to) {
            int at = from;
            int stop = to;
            int frame = 0;
            int calls = 0;
            for (int step = 0; step < MOST_STEPS && (calls > 0 || at < stop); step++) {
                if (at >= stop) {
                    calls--;
                    words.sink(frame);
                    at = callAt[calls];
                    stop = callStop[calls];
                    frame = callFrame[calls];
                } else if (program.codes[at] == Program.CALL && calls < MOST_CALLS) {
                    int function = program.operands[at];
                    callAt[calls] = at + 1;
                    callStop[calls] = stop;
                    callFrame[calls] = frame;
                    calls++;
                    frame = words.top - program.ofFunction(function, Program.PARAMETERS);
                    at = program.ofFunction(function, Program.BODY_FROM);
                    stop = program.ofFunction(function, Program.BODY_TO);
                } else if (program.codes[at] < Program.CALL) {
                    push(program.codes[at], program.operands[at], frame);
                    at++;
                } else {
                    words.apply(program.codes[at]);
                    at++;
                }
            }
        }

        private void push(int code, int operand, int frame) {
            switch (code) {
                case Program.PUSH_NUMBER:
                    words.pushNumber(operand);
                    break;
                case Program.PUSH_PARAMETER:
                    words.pushCopy(frame + operand);
                    break;
                case Program.PUSH_VARIABLE:
                    words.pushFrom(cells, program.slotFirst[operand] * Words.STRIDE);
                    break;
                default:
                    words.select(cells, program.slotFirst[operand] * Words.STRIDE, program.slotSize[operand]);
                    break;
            }
        }
    }

    /** A row of clauses that only grows: those of the circuit and the goals, then those learnt. */
    static final class Clauses {
        /** A gate has no more than three clauses and seven literals for each of its COSTS. */
        private static final int GATE_CLAUSES = 90100;
        private static final int GATE_LITERALS = 210100;
        /** Clauses of decisions alone: one for each of the INPUTS there are, at most. */
        private static final int DECISION_CLAUSES = 1 << Unroller.MOST_BITS;
        private static final int DECISION_LITERALS = DECISION_CLAUSES * Unroller.MOST_BITS;
        private static final int LEARNT_CLAUSES = 4096;
        private static final int LEARNT_LITERALS = 131072;
        static final int MOST = GATE_CLAUSES + DECISION_CLAUSES + LEARNT_CLAUSES;
        private static final int MOST_LITERALS = GATE_LITERALS + DECISION_LITERALS + LEARNT_LITERALS;

        final int[] literals = new int[MOST_LITERALS];
        final int[] starts = new int[MOST + 1];
        int amount;
        private int given;

        /** The goals as clauses: each by itself, or one for all if one of them is enough. */
        void begin(int[] goals, int goalCount, boolean all) {
            amount = 0;
            given = 0;
            addOne(Gates.TRUE);
            if (!all) {
                add(goals, goalCount);
            }
            for (int g = 0; all && g < goalCount; g++) {
                addOne(goals[g]);
            }
        }

        /** The clauses of the gates that the goals hang on; what comes behind them is learnt. */
        void addGates(Gates gates) {
            for (int n = 1; n < gates.size; n++) {
                if (gates.wanted[n] != 0) {
                    addGate(n << 1, gates.kinds[n], gates.first[n], gates.second[n], gates.third[n]);
                }
            }
            given = amount;
        }

        private void addGate(int out, int kind, int a, int b, int c) {
            switch (kind) {
                case Gates.AND:
                    addAnd(out, a, b);
                    break;
                case Gates.XOR:
                    addXor(out, a, b);
                    break;
                case Gates.MUX:
                    addMux(out, a, b, c);
                    break;
                default:
                    break;
            }
        }

        private void addAnd(int out, int a, int b) {
            addTwo(out ^ 1, a);
            addTwo(out ^ 1, b);
            addThree(out, a ^ 1, b ^ 1);
        }

        private void addXor(int out, int a, int b) {
            addThree(out ^ 1, a, b);
            addThree(out ^ 1, a ^ 1, b ^ 1);
            addThree(out, a ^ 1, b);
            addThree(out, a, b ^ 1);
        }

        private void addMux(int out, int choice, int one, int other) {
            addThree(out ^ 1, choice ^ 1, one);
            addThree(out, choice ^ 1, one ^ 1);
            addThree(out ^ 1, choice, other);
            addThree(out, choice, other ^ 1);
        }

        private void addOne(int a) {
            if (fits(1)) {
                literals[starts[amount]] = a;
                close(1);
            }
        }

        private void addTwo(int a, int b) {
            if (fits(2)) {
                literals[starts[amount]] = a;
                literals[starts[amount] + 1] = b;
                close(2);
            }
        }

        private void addThree(int a, int b, int c) {
            if (fits(3)) {
                literals[starts[amount]] = a;
                literals[starts[amount] + 1] = b;
                literals[starts[amount] + 2] = c;
                close(3);
            }
        }

        /** The number of the new clause, -1 if there is no room. */
        int add(int[] from, int size) {
            if (!fits(size)) {
                return -1;
            }
            System.arraycopy(from, 0, literals, starts[amount], size);
            close(size);
            return amount - 1;
        }

        private void close(int size) {
            starts[amount + 1] = starts[amount] + size;
            amount++;
        }

        private boolean fits(int size) {
            return amount < MOST && size <= MOST_LITERALS - starts[amount];
        }

        /** Whether a learnt clause fits, with room behind it for all clauses of decisions alone. */
        boolean fitsEarly(int size) {
            return amount - given < LEARNT_CLAUSES
                && size <= LEARNT_LITERALS - (starts[amount] - starts[given]);
        }
    }

    /**
     * Goes through a refutation. A step is a clause with the clauses it follows from, the last one
     * first: if all its literals are false, each of them has one literal left, and the last none.
     */
    static final class Checker {
        private final Clauses clauses;
        private final byte[] truth = new byte[2 * Gates.MOST];
        private final int[] assumed = new int[Gates.MOST];
        private int assumedCount;
        private boolean refusedOne;
        /** Whether the empty clause was come to and no step before it was refused. */
        boolean refuted;

        Checker(Clauses clauses) {
            this.clauses = clauses;
        }

        void begin(int nodes) {
            Arrays.fill(truth, 0, Math.min(2 * nodes, truth.length), (byte) 0);
            assumedCount = 0;
            refusedOne = false;
            refuted = false;
        }

        /** A step of one literal, all others of a single clause being false by the steps before it. */
        boolean acceptLiteral(int literal, int clause) {
            boolean sound = clause >= 0 && clause < clauses.amount;
            for (int i = sound ? clauses.starts[clause] : 0; sound && i < clauses.starts[clause + 1]; i++) {
                sound = clauses.literals[i] == literal || truth[clauses.literals[i]] < 0;
            }
            if (sound) {
                set(literal);
            } else {
                refusedOne = true;
            }
            return sound;
        }

        boolean accept(int[] step, int size, int[] chain, int length) {
            assumedCount = 0;
            boolean sound = assumeAgainst(step, size) || follow(chain, length);
            withdraw();
            if (!sound) {
                refusedOne = true;
            } else if (size == 0) {
                refuted = !refusedOne;
            } else if (size == 1) {
                set(step[0]);
            }
            return sound;
        }

        /** Whether that is a contradiction already. */
        private boolean assumeAgainst(int[] step, int size) {
            for (int i = 0; i < size; i++) {
                if (truth[step[i]] > 0) {
                    return true;
                }
                assume(step[i] ^ 1);
            }
            return false;
        }

        private void assume(int literal) {
            if (truth[literal] == 0 && assumedCount < assumed.length) {
                assumed[assumedCount] = literal;
                assumedCount++;
                set(literal);
            }
        }

        private void set(int literal) {
            truth[literal] = 1;
            truth[literal ^ 1] = -1;
        }

        private void withdraw() {
            for (int i = 0; i < assumedCount; i++) {
                truth[assumed[i]] = 0;
                truth[assumed[i] ^ 1] = 0;
            }
        }

        private boolean follow(int[] chain, int length) {
            for (int k = length - 1; k >= 0; k--) {
                int clause = chain[k];
                if (clause < 0 || clause >= clauses.amount) {
                    return false;
                }
                int left = -1;
                int leftCount = 0;
                for (int i = clauses.starts[clause]; i < clauses.starts[clause + 1]; i++) {
                    if (truth[clauses.literals[i]] >= 0) {
                        left = clauses.literals[i];
                        leftCount++;
                    }
                }
                if (leftCount == 0) {
                    return true;
                }
                if (leftCount > 1) {
                    return false;
                }
                assume(left);
            }
            return false;
        }
    }

    /**
     * Searches the clauses. Only INPUTS are decided, in their order and for 0 first, so the first
     * solution that is found is the least.
     */
    static final class Search {
        private static final int NONE = -1;
        private static final int MOST_ROUNDS = 1000000;

        private final Clauses clauses;
        private final Checker checker;
        /** Each clause has two watches, of literals that are not both false before it is looked at. */
        private final int[] watched = new int[2 * Clauses.MOST];
        private final int[] nextWatch = new int[2 * Clauses.MOST];
        private final int[] firstWatch = new int[2 * Gates.MOST];
        private final byte[] truth = new byte[2 * Gates.MOST];
        private final byte[] level = new byte[Gates.MOST];
        private final int[] reason = new int[Gates.MOST];
        private final int[] trail = new int[Gates.MOST];
        private final int[] levelStart = new int[Unroller.MOST_BITS + 2];
        private final byte[] seen = new byte[Gates.MOST];
        private final int[] learnt = new int[Gates.MOST];
        private final int[] chain = new int[Gates.MOST + 1];
        private int trailSize;
        private int done;
        private int depth;
        private int learntSize;
        private int chainSize;
        private int seenCount;
        private int seenHere;
        private boolean decisionsAlone;

        Search(Clauses clauses, Checker checker) {
            this.clauses = clauses;
            this.checker = checker;
        }

        boolean isTrue(int literal) {
            return truth[literal] > 0;
        }

        boolean solve(int nodes, int[] order, int ordered) {
            begin(nodes);
            int conflict = attachAll();
            for (int round = 0; round < MOST_ROUNDS; round++) {
                if (conflict == NONE) {
                    conflict = propagate();
                }
                if (conflict == NONE) {
                    if (!decide(order, ordered)) {
                        return true;
                    }
                } else if (depth == 0) {
                    chain[0] = conflict;
                    checker.accept(learnt, 0, chain, 1);
                    return false;
                } else {
                    learn(conflict);
                    conflict = NONE;
                }
            }
            return false;
        }

        private void begin(int nodes) {
            checker.begin(nodes);
            Arrays.fill(firstWatch, 0, 2 * nodes, NONE);
            Arrays.fill(truth, 0, 2 * nodes, (byte) 0);
            trailSize = 0;
            done = 0;
            depth = 0;
            decisionsAlone = false;
        }

        /** A clause that can't hold, else NONE. */
        private int attachAll() {
            int conflict = NONE;
            for (int c = 0; c < clauses.amount; c++) {
                int start = clauses.starts[c];
                int size = clauses.starts[c + 1] - start;
                if (size > 1) {
                    attach(c, clauses.literals[start], clauses.literals[start + 1]);
                } else if (size == 0 || truth[clauses.literals[start]] < 0) {
                    conflict = c;
                } else if (truth[clauses.literals[start]] == 0) {
                    assign(clauses.literals[start], c);
                }
            }
            return conflict;
        }

        private void attach(int clause, int one, int other) {
            watch(2 * clause, one);
            watch(2 * clause + 1, other);
        }

        private void watch(int place, int literal) {
            watched[place] = literal;
            nextWatch[place] = firstWatch[literal];
            firstWatch[literal] = place;
        }

        private void assign(int literal, int clause) {
            truth[literal] = 1;
            truth[literal ^ 1] = -1;
            level[literal >> 1] = (byte) depth;
            reason[literal >> 1] = clause;
            trail[trailSize] = literal;
            trailSize++;
            if (depth == 0 && clause != NONE) {
                checker.acceptLiteral(literal, clause);
            }
        }

        /** Draws all consequences: a clause that can't hold any more, else NONE. */
        private int propagate() {
            // the trail grows on the way, but has each node once at most
            for (; done < trailSize && done < trail.length; done++) {
                int literal = trail[done] ^ 1;
                int place = firstWatch[literal];
                int before = NONE;
                for (int k = 0; place != NONE && k < watched.length; k++) {
                    int next = nextWatch[place];
                    int other = watched[place ^ 1];
                    int spare = truth[other] > 0 ? NONE : spareLiteral(place >> 1, literal, other);
                    if (spare == NONE) {
                        if (truth[other] < 0) {
                            return place >> 1;
                        }
                        if (truth[other] == 0) {
                            assign(other, place >> 1);
                        }
                        before = place;
                    } else {
                        if (before == NONE) {
                            firstWatch[literal] = next;
                        } else {
                            nextWatch[before] = next;
                        }
                        watch(place, spare);
                    }
                    place = next;
                }
            }
            return NONE;
        }

        private int spareLiteral(int clause, int literal, int other) {
            for (int i = clauses.starts[clause]; i < clauses.starts[clause + 1]; i++) {
                int candidate = clauses.literals[i];
                if (candidate != other && candidate != literal && truth[candidate] >= 0) {
                    return candidate;
                }
            }
            return NONE;
        }

        private boolean decide(int[] order, int ordered) {
            for (int i = 0; i < ordered; i++) {
                int zero = order[i] << 1 | 1;
                if (truth[zero] == 0) {
                    depth++;
                    levelStart[depth] = trailSize;
                    assign(zero, NONE);
                    return true;
                }
            }
            return false;
        }

        private void learn(int conflict) {
            analyse(conflict);
            if (!decisionsAlone && !clauses.fitsEarly(learntSize)) {
                decisionsAlone = true;
                analyse(conflict);
            }
            checker.accept(learnt, learntSize, chain, chainSize);
            if (learntSize == 1) {
                goBack(0);
                assign(learnt[0], NONE);
                return;
            }
            goBack(level[learnt[1] >> 1]);
            int clause = clauses.add(learnt, learntSize);
            if (clause != NONE) {
                attach(clause, learnt[0], learnt[1]);
            }
            assign(learnt[0], clause);
        }

        /**
         * Goes back along the trail from a conflict to what it came from: to one literal of the last
         * level and literals of those before it, or, once room is short, to decisions alone, of
         * which there are never too many. The literals come out in the trail's order, the last first.
         */
        private void analyse(int conflict) {
            learntSize = 0;
            chainSize = 0;
            seenCount = 0;
            seenHere = 0;
            resolve(conflict);
            for (int t = trailSize - 1; t >= 0 && seenCount > 0; t--) {
                int node = trail[t] >> 1;
                if (seen[node] != 0) {
                    seen[node] = 0;
                    seenCount--;
                    if (stays(node)) {
                        learnt[learntSize] = trail[t] ^ 1;
                        learntSize++;
                    } else {
                        resolve(reason[node]);
                    }
                    seenHere -= level[node] == depth ? 1 : 0;
                }
            }
        }

        private boolean stays(int node) {
            if (decisionsAlone || reason[node] == NONE) {
                return reason[node] == NONE;
            }
            return level[node] < depth || seenHere == 1;
        }

        private void resolve(int clause) {
            chain[chainSize] = clause;
            chainSize++;
            for (int i = clauses.starts[clause]; i < clauses.starts[clause + 1]; i++) {
                int literal = clauses.literals[i];
                int node = literal >> 1;
                if (truth[literal] < 0 && level[node] > 0 && seen[node] == 0) {
                    seen[node] = 1;
                    seenCount++;
                    seenHere += level[node] == depth ? 1 : 0;
                }
            }
        }

        private void goBack(int to) {
            int start = levelStart[to + 1];
            for (int t = start; t < trailSize; t++) {
                truth[trail[t]] = 0;
                truth[trail[t] ^ 1] = 0;
            }
            trailSize = start;
            done = start;
            depth = to;
        }
    }
}
