import java.util.Random;

/** Makes texts of streets for tests, and feeds them. */
final class Texts {
    private static final String[] ATOMS = {"night", "moon", "front", "back", "rest"};
    private static final String[] PIECES = {
        ";", ":", "+", "-", "*", "(", ")", "[", "]", "=", "<", ">", "not", "if", "then", "else", "end",
        "and", "or", "night", "moon", "front", "back", "rest", "stands", "rule", "picks", "sleeps",
        "street", "tables", "nothing", "a", "abcd", "abcde", "g", "abcdefabcdefa", "0", "1", "3", "10",
        "999", "1000", "007", "!", "A", "\t", "\n", "_", "\u00e9", "\u0000", "not not not not not not",
        "[[[[[[[", "((((((("
    };

    private final Random random;
    private boolean tight;

    Texts(Random random) {
        this.random = random;
    }

    String blank() {
        if (tight) {
            return "";
        }
        int kind = random.nextInt(8);
        return kind == 0 ? "" : kind == 1 ? "\n" : kind == 2 ? "  " : " ";
    }

    private String letters(int most) {
        StringBuilder b = new StringBuilder();
        int n = 1 + random.nextInt(most);
        for (int i = 0; i < n; i++) {
            b.append((char) ('a' + random.nextInt(random.nextBoolean() ? 6 : 3)));
        }
        return b.toString();
    }

    String sum(int depth) {
        StringBuilder b = new StringBuilder(term(depth));
        while (random.nextInt(3) == 0) {
            b.append(blank()).append(random.nextBoolean() ? '+' : '-').append(blank()).append(term(depth));
        }
        return b.toString();
    }

    private String term(int depth) {
        StringBuilder b = new StringBuilder(atom(depth));
        while (random.nextInt(4) == 0) {
            b.append(blank()).append('*').append(blank()).append(atom(depth));
        }
        return b.toString();
    }

    private String atom(int depth) {
        int kind = random.nextInt(depth >= 3 ? 7 : 10);
        if (kind < 5) {
            return ATOMS[kind];
        }
        if (kind < 7) {
            return String.valueOf(random.nextInt(random.nextBoolean() ? 5 : 1000));
        }
        if (kind < 9) {
            return "(" + sum(depth + 1) + ")";
        }
        return "if " + truth(depth + 1) + " then " + sum(depth + 1) + " else " + sum(depth + 1) + " end";
    }

    String truth(int depth) {
        StringBuilder b = new StringBuilder(unit(depth));
        while (random.nextInt(3) == 0) {
            b.append(random.nextBoolean() ? " or " : " and ").append(unit(depth));
        }
        return b.toString();
    }

    private String unit(int depth) {
        int kind = random.nextInt(depth >= 3 ? 4 : 6);
        if (kind == 4) {
            return "not " + unit(depth + 1);
        }
        if (kind == 5) {
            return "[" + truth(depth + 1) + "]";
        }
        return sum(depth) + blank() + "=<>".charAt(random.nextInt(3)) + blank() + sum(depth);
    }

    /** A text without a fault. */
    String good() {
        tight = random.nextInt(4) == 0;
        int tables = 1 + random.nextInt(3);
        StringBuilder b = new StringBuilder("street tables " + tables + " moon " + random.nextInt(10) + blank() + ";");
        int lines = random.nextInt(14);
        for (int i = 0; i < lines; i++) {
            String line;
            int kind = random.nextInt(10);
            if (kind == 0) {
                line = "stands " + letters(12);
            } else if (kind < 7) {
                String becomes = random.nextInt(5) == 0 ? "nothing" : letters(random.nextInt(3) == 0 ? 4 : 2);
                char letter = (char) ('a' + random.nextInt(random.nextBoolean() ? 6 : 3));
                line = "rule " + random.nextInt(tables) + " " + letter + blank() + ":" + blank() + becomes;
            } else if (kind < 9) {
                line = "picks" + blank() + ":" + blank() + sum(0);
            } else {
                line = "sleeps" + blank() + ":" + blank() + truth(0);
            }
            if (b.length() + line.length() + 4 < 900) {
                b.append(blank()).append(line).append(blank()).append(';');
            }
        }
        return b.append(blank()).toString();
    }

    /** A text that may have a fault. */
    String doubtful() {
        StringBuilder b = new StringBuilder(good());
        int changes = random.nextInt(3);
        for (int i = 0; i < changes; i++) {
            int at = random.nextInt(b.length() + 1);
            int kind = random.nextInt(4);
            if (kind == 0 && at < b.length()) {
                b.delete(at, Math.min(b.length(), at + 1 + random.nextInt(6)));
            } else if (kind == 1) {
                b.setLength(at);
                i = changes;
            } else {
                b.insert(at, PIECES[random.nextInt(PIECES.length)] + (random.nextBoolean() ? " " : ""));
            }
            if (b.length() == 0) {
                b.append(' ');
            }
        }
        if (b.length() > 900) {
            b.setLength(900);
        }
        return b.toString();
    }

    /** The five ints by which the bytes from a place on are fed. */
    static int[] fed(String text, int from) {
        int[] five = new int[5];
        for (int i = 0; i < 20; i++) {
            int c = from + i < text.length() ? text.charAt(from + i) : ' ';
            five[i / 4] = five[i / 4] << 8 | c & 255;
        }
        return five;
    }

    /** Feeds a text and calls street(). */
    static int tell(LetterNights x, String text) {
        for (int from = 0; from < text.length(); from += 20) {
            int[] f = fed(text, from);
            x.feed(f[0], f[1], f[2], f[3], f[4]);
        }
        return x.street(text.length());
    }
}
