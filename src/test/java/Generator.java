import java.util.Random;

/** Texts by chance, always the same ones for the same seed. */
final class Generator {
    private static final String[] BINARY = {"||", "&&", "|", "^", "&", "==", "!=", "<", "<=", ">",
        ">=", "<<", ">>", "+", "-", "*", "/", "%"};
    private static final String[] BITS = {"x", "y", "t", "f", "g", "q", "width", "var", "fun", "any",
        "assume", "assert", "if", "else", "while", "limit", "less", ";", ",", ":", "?", "(", ")", "[",
        "]", "{", "}", "=", "==", "!=", "<", "<=", ">", ">=", "<<", ">>", "+", "-", "*", "/", "%",
        "&", "&&", "|", "||", "^", "~", "!", "0", "1", "2", "3", "9", "51", "999999999",
        "1234567890", "@", "_", "\u0080", "#", "\n", "a23456789012345678901234567890x",
        "a2345678901234567890123456789012"};

    private final Random chance;
    private final StringBuilder out = new StringBuilder();
    private int width;
    private int variables;
    private int arrays;
    private int[] arities;
    private int bitsLeft;
    private int checksLeft;
    private int parameters;

    Generator(long seed) {
        chance = new Random(seed);
    }

    private int below(int n) {
        return chance.nextInt(n);
    }

    /** A TEXT that is right but for COSTS perhaps. */
    String text(int mostBits) {
        out.setLength(0);
        width = 1 + below(8);
        bitsLeft = 1 + below(mostBits);
        checksLeft = 12;
        out.append("width ").append(width).append(";\n");
        variables = 1 + below(4);
        arrays = below(3);
        for (int v = 0; v < variables; v++) {
            out.append("var v").append(v).append("; ");
        }
        for (int a = 0; a < arrays; a++) {
            out.append("var a").append(a).append("[").append(1 + below(below(3) == 0 ? 16 : 5)).append("]; ");
        }
        functions(below(3));
        for (int v = 0; v < variables; v++) {
            if (below(4) != 0) {
                draw(v);
            }
        }
        statements(2 + below(5), 0);
        claim("assert");
        return out.toString();
    }

    private void functions(int amount) {
        arities = new int[0];
        for (int f = 0; f < amount; f++) {
            parameters = 1 + below(3);
            out.append("fun f").append(f).append("(");
            for (int p = 0; p < parameters; p++) {
                out.append(p > 0 ? ", " : "").append("p").append(p);
            }
            out.append(") = ");
            expression(2);
            out.append(";\n");
            arities = java.util.Arrays.copyOf(arities, f + 1);
            arities[f] = parameters;
            parameters = 0;
        }
    }

    private void draw(int v) {
        int bits = 1 + below(width);
        if (bits <= bitsLeft) {
            bitsLeft -= bits;
            out.append("any v").append(v).append(" : ").append(bits).append("; ");
        }
    }

    private void statements(int amount, int nest) {
        for (int s = 0; s < amount; s++) {
            statement(nest);
        }
    }

    private void statement(int nest) {
        switch (below(nest > 2 ? 6 : 10)) {
            case 0:
            case 1:
            case 2:
                out.append("v").append(below(variables)).append(" = ");
                expression(2);
                out.append("; ");
                break;
            case 3:
                if (arrays > 0 && checksLeft > 0) {
                    checksLeft--;
                    out.append("a").append(below(arrays)).append("[");
                    expression(1);
                    out.append("] = ");
                    expression(1);
                    out.append(";\n");
                }
                break;
            case 4:
                claim(below(3) == 0 ? "assume" : "assert");
                break;
            case 5:
                if (nest == 0) {
                    draw(below(variables));
                }
                break;
            case 6:
            case 7:
                branch(nest);
                break;
            default:
                loop(nest);
                break;
        }
    }

    private void claim(String word) {
        if (checksLeft > 0) {
            checksLeft--;
            out.append(word).append(" ");
            expression(2);
            out.append(";\n");
        }
    }

    private void branch(int nest) {
        out.append("if ");
        expression(1);
        out.append(" { ");
        statements(below(3), nest + 1);
        out.append("}");
        int kind = below(3);
        if (kind == 1) {
            out.append(" else { ");
            statements(below(3), nest + 1);
            out.append("}");
        } else if (kind == 2 && nest < 3) {
            out.append(" else ");
            branch(nest + 1);
        }
        out.append("\n");
    }

    private void loop(int nest) {
        if (checksLeft == 0) {
            return;
        }
        checksLeft--;
        out.append("while ");
        expression(1);
        int limit = below(4);
        out.append(" limit ").append(limit).append(" { ");
        int kept = bitsLeft;
        int drawn = below(variables);
        if (below(4) == 0 && limit > 0 && bitsLeft >= limit && nest == 0) {
            out.append("any v").append(drawn).append(" : 1; ");
            kept -= limit;
        }
        bitsLeft = 0;
        statements(1 + below(2), nest + 1);
        bitsLeft = kept;
        out.append("}\n");
    }

    private void expression(int depth) {
        int kind = depth == 0 ? below(2) : below(12);
        if (kind < 2) {
            leaf(kind);
        } else if (kind < 7) {
            operand(depth - 1);
            out.append(" ").append(BINARY[below(BINARY.length)]).append(" ");
            operand(depth - 1);
        } else if (kind == 7) {
            out.append(new String[] {"-", "~", "!"}[below(3)]);
            operand(depth - 1);
        } else if (kind == 8) {
            operand(depth - 1);
            out.append(" ? ");
            expression(depth - 1);
            out.append(" : ");
            expression(depth - 1);
        } else if (kind == 9) {
            out.append("less(");
            expression(depth - 1);
            out.append(", ");
            expression(depth - 1);
            out.append(")");
        } else if (kind == 10 && arities.length > 0) {
            call(below(arities.length), depth - 1);
        } else if (kind == 11 && arrays > 0 && parameters == 0) {
            out.append("a").append(below(arrays)).append("[");
            expression(depth - 1);
            out.append("]");
        } else {
            leaf(1);
        }
    }

    private void call(int f, int depth) {
        out.append("f").append(f).append("(");
        for (int i = 0; i < arities[f]; i++) {
            out.append(i > 0 ? ", " : "");
            expression(depth);
        }
        out.append(")");
    }

    private void operand(int depth) {
        if (below(3) == 0) {
            expression(0);
        } else if (below(4) == 0) {
            expression(depth);
        } else {
            out.append("(");
            expression(depth);
            out.append(")");
        }
    }

    private void leaf(int kind) {
        if (kind == 0) {
            out.append(below(1 << (below(2) == 0 ? width : Math.min(width, 2))));
        } else if (parameters > 0) {
            out.append("p").append(below(parameters));
        } else {
            out.append("v").append(below(variables));
        }
    }

    /** A TEXT that was right before something in it was changed. */
    String spoilt() {
        String text = text(12);
        int changes = 1 + below(2);
        for (int c = 0; c < changes; c++) {
            int from = below(text.length() + 1);
            int to = Math.min(text.length(), from + (below(2) == 0 ? 0 : below(6)));
            String put = below(4) == 0 ? "" : BITS[below(BITS.length)];
            text = text.substring(0, from) + (below(3) == 0 ? " " : "") + put + text.substring(to);
        }
        return text;
    }

    /** Signs and words in no order, behind a beginning that is right. */
    String jumble() {
        StringBuilder text = new StringBuilder("width 2; var x; var y; var t[3]; fun f(p, q) = p + q; fun g(p) = f(p, 1);");
        int amount = below(12);
        for (int i = 0; i < amount; i++) {
            text.append(BITS[below(BITS.length)]).append(below(3) == 0 ? "" : " ");
        }
        return text.toString();
    }
}
