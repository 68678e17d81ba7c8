import java.math.BigInteger;
import java.util.ArrayDeque;
import java.util.ArrayList;
import java.util.Deque;
import java.util.HashMap;
import java.util.HashSet;
import java.util.List;
import java.util.Map;
import java.util.Set;
import java.util.TreeMap;
import java.util.function.ToLongFunction;

/**
 * The document told again as plainly as can be, with the street held as a String: slow, and only
 * for short streets. ModelTest asks it and LetterNights the same things.
 */
final class Model {
    /** The street is too long for this model; nothing is known of what is due. */
    static final class TooLong extends RuntimeException {
        private static final long serialVersionUID = 1L;
    }

    private static final int NONE = -1;
    private static final int LONGEST = 30_000;
    private static final String LETTERS = "abcdef";

    private static final class Told {
        int tables = 1;
        int moon = 0;
        int lines = 0;
        String stands = "a";
        String[][] rules = new String[3][6];
        ToLongFunction<Now> picks = now -> 0;
        ToLongFunction<Now> sleeps = now -> 0;

        Told() {
            for (String[] table : rules) {
                for (int x = 0; x < 6; x++) {
                    table[x] = LETTERS.substring(x, x + 1);
                }
            }
        }
    }

    private static final class Now {
        Told told = new Told();
        String street = "a";
        int moon = 0;
        int nights = 0;
        int awake = 0;

        Now copy() {
            Now c = new Now();
            c.told = told;
            c.street = street;
            c.moon = moon;
            c.nights = nights;
            c.awake = awake;
            return c;
        }

        int front() {
            return street.isEmpty() ? 6 : street.charAt(0) - 'a';
        }

        int back() {
            return street.isEmpty() ? 6 : street.charAt(street.length() - 1) - 'a';
        }

        boolean asleep() {
            return told.sleeps.applyAsLong(this) != 0;
        }

        int picked() {
            long v = told.picks.applyAsLong(this);
            return (int) (((v % told.tables) + told.tables) % told.tables);
        }

        int deed(long v) {
            int table;
            if (v == 0) {
                if (asleep()) {
                    nights++;
                    return 0;
                }
                table = picked();
            } else if (v >= 1 && v <= 3) {
                table = (int) v - 1;
                if (table >= told.tables) {
                    return 1;
                }
            } else if (v >= 10 && v <= 19) {
                moon = (int) v - 10;
                return 0;
            } else {
                return 1;
            }
            if (awake == 60) {
                return 2;
            }
            street = after(told, street, table);
            nights++;
            awake++;
            return 0;
        }
    }

    private static String after(Told told, String street, int table) {
        StringBuilder b = new StringBuilder();
        for (char c : street.toCharArray()) {
            b.append(told.rules[table][c - 'a']);
            if (b.length() > LONGEST) {
                throw new TooLong();
            }
        }
        return b.toString();
    }

    private final StringBuilder tape = new StringBuilder();
    private int fault = 0;
    private int faultPlace = NONE;
    private Now now = new Now();
    private final Deque<Now> past = new ArrayDeque<>();
    private final Now[] images = new Now[2];
    private final long[][] trays = new long[4][];
    private final int[] sorts = new int[4];

    // ---- the text

    private static final class Fault extends RuntimeException {
        private static final long serialVersionUID = 1L;
        final int kind;
        final int place;

        Fault(int kind, int place) {
            this.kind = kind;
            this.place = place;
        }
    }

    private record Token(char kind, String text, int place) {
    }

    private static final class Parser {
        final List<Token> tokens = new ArrayList<>();
        int at = 0;
        int open = 0;
        final Told told = new Told();

        Parser(String s) {
            int i = 0;
            while (i < s.length()) {
                char c = s.charAt(i);
                int j = i + 1;
                if (c == 10 || c == 32) {
                    i++;
                    continue;
                }
                char kind = '?';
                if (c >= 'a' && c <= 'z') {
                    while (j < s.length() && s.charAt(j) >= 'a' && s.charAt(j) <= 'z') {
                        j++;
                    }
                    kind = 'w';
                } else if (c >= '0' && c <= '9') {
                    while (j < s.length() && s.charAt(j) >= '0' && s.charAt(j) <= '9') {
                        j++;
                    }
                    kind = j - i <= 3 ? 'n' : '?';
                } else if (";:+-*()[]=<>".indexOf(c) >= 0) {
                    kind = 's';
                }
                tokens.add(new Token(kind, s.substring(i, j), i));
                i = j;
            }
            tokens.add(new Token('e', "", s.length()));
        }

        Token peek() {
            return tokens.get(at);
        }

        boolean is(String text) {
            return peek().kind != '?' && peek().kind != 'e' && peek().text.equals(text);
        }

        Fault wrong(int kind) {
            return new Fault(peek().kind == '?' ? 1 : kind, peek().place);
        }

        void need(String text) {
            if (!is(text)) {
                throw wrong(2);
            }
            at++;
        }

        int number(int low, int high) {
            if (peek().kind != 'n') {
                throw wrong(2);
            }
            int n = Integer.parseInt(peek().text);
            if (n < low || n > high) {
                throw wrong(3);
            }
            at++;
            return n;
        }

        String letters(int most) {
            if (peek().kind != 'w' || !peek().text.matches("[a-f]+")) {
                throw wrong(2);
            }
            if (peek().text.length() > most) {
                throw wrong(3);
            }
            return tokens.get(at++).text;
        }

        Told all() {
            need("street");
            need("tables");
            told.tables = number(1, 3);
            need("moon");
            told.moon = number(0, 9);
            need(";");
            told.lines = 1;
            while (peek().kind != 'e') {
                line();
                need(";");
                told.lines++;
            }
            return told;
        }

        void line() {
            if (is("stands")) {
                at++;
                told.stands = letters(12);
            } else if (is("rule")) {
                at++;
                int table = number(0, told.tables - 1);
                String letter = letters(1);
                need(":");
                String becomes = "";
                if (is("nothing")) {
                    at++;
                } else {
                    becomes = letters(4);
                }
                told.rules[table][letter.charAt(0) - 'a'] = becomes;
            } else if (is("picks")) {
                at++;
                need(":");
                told.picks = sum();
            } else if (is("sleeps")) {
                at++;
                need(":");
                told.sleeps = truth();
            } else {
                throw wrong(2);
            }
        }

        void enter() {
            if (open == 6) {
                throw wrong(4);
            }
            open++;
            at++;
        }

        ToLongFunction<Now> truth() {
            ToLongFunction<Now> a = both();
            while (is("or")) {
                at++;
                ToLongFunction<Now> l = a;
                ToLongFunction<Now> r = both();
                a = w -> l.applyAsLong(w) != 0 || r.applyAsLong(w) != 0 ? 1 : 0;
            }
            return a;
        }

        ToLongFunction<Now> both() {
            ToLongFunction<Now> a = unit();
            while (is("and")) {
                at++;
                ToLongFunction<Now> l = a;
                ToLongFunction<Now> r = unit();
                a = w -> l.applyAsLong(w) != 0 && r.applyAsLong(w) != 0 ? 1 : 0;
            }
            return a;
        }

        ToLongFunction<Now> unit() {
            if (is("not")) {
                enter();
                ToLongFunction<Now> a = unit();
                open--;
                return w -> a.applyAsLong(w) == 0 ? 1 : 0;
            }
            if (is("[")) {
                enter();
                ToLongFunction<Now> a = truth();
                need("]");
                open--;
                return a;
            }
            ToLongFunction<Now> l = sum();
            if (!is("=") && !is("<") && !is(">")) {
                throw wrong(2);
            }
            char c = tokens.get(at++).text.charAt(0);
            ToLongFunction<Now> r = sum();
            return w -> {
                int way = Long.compare(l.applyAsLong(w), r.applyAsLong(w));
                return (c == '=' ? way == 0 : c == '<' ? way < 0 : way > 0) ? 1 : 0;
            };
        }

        static long kept(long v) {
            return v > 1000000 ? 1000000 : v < -1000000 ? -1000000 : v;
        }

        ToLongFunction<Now> sum() {
            ToLongFunction<Now> a = term();
            while (is("+") || is("-")) {
                boolean plus = is("+");
                at++;
                ToLongFunction<Now> l = a;
                ToLongFunction<Now> r = term();
                a = w -> kept(plus ? l.applyAsLong(w) + r.applyAsLong(w) : l.applyAsLong(w) - r.applyAsLong(w));
            }
            return a;
        }

        ToLongFunction<Now> term() {
            ToLongFunction<Now> a = atom();
            while (is("*")) {
                at++;
                ToLongFunction<Now> l = a;
                ToLongFunction<Now> r = atom();
                a = w -> kept(l.applyAsLong(w) * r.applyAsLong(w));
            }
            return a;
        }

        ToLongFunction<Now> atom() {
            if (peek().kind == 'n') {
                long n = number(0, 999);
                return w -> n;
            }
            if (is("(")) {
                enter();
                ToLongFunction<Now> a = sum();
                need(")");
                open--;
                return a;
            }
            if (is("if")) {
                enter();
                ToLongFunction<Now> c = truth();
                need("then");
                ToLongFunction<Now> a = sum();
                need("else");
                ToLongFunction<Now> b = sum();
                need("end");
                open--;
                return w -> c.applyAsLong(w) != 0 ? a.applyAsLong(w) : b.applyAsLong(w);
            }
            ToLongFunction<Now> a;
            if (is("night")) {
                a = w -> w.nights;
            } else if (is("moon")) {
                a = w -> w.moon;
            } else if (is("front")) {
                a = Now::front;
            } else if (is("back")) {
                a = Now::back;
            } else if (is("rest")) {
                a = w -> w.street.length() % 10;
            } else {
                throw wrong(2);
            }
            at++;
            return a;
        }
    }

    // ---- the calls

    public int feed(int a, int b, int c, int d, int e) {
        if (tape.length() + 20 > 900) {
            return -5;
        }
        for (int four : new int[] {a, b, c, d, e}) {
            for (int shift = 24; shift >= 0; shift -= 8) {
                tape.append((char) (four >> shift & 255));
            }
        }
        return tape.length();
    }

    public int street(int n) {
        if (n < 0 || n > tape.length()) {
            return -3;
        }
        String text = tape.substring(0, n);
        tape.setLength(0);
        try {
            Told told = new Parser(text).all();
            fault = 0;
            faultPlace = NONE;
            now = new Now();
            now.told = told;
            now.street = told.stands;
            now.moon = told.moon;
            past.clear();
            return told.lines;
        } catch (Fault f) {
            fault = f.kind;
            faultPlace = f.place;
            return -30 - f.kind;
        }
    }

    public int fault(int what) {
        return what == 0 ? fault : what == 1 ? faultPlace : NONE;
    }

    private boolean noTable(int table) {
        return table < 0 || table >= now.told.tables;
    }

    private static boolean noLetter(long letter) {
        return letter < 0 || letter > 5;
    }

    public int becomes(int table, int letter, int i) {
        if (noTable(table) || noLetter(letter)) {
            return -2;
        }
        if (i < -1) {
            return -3;
        }
        String s = now.told.rules[table][letter];
        return i == -1 ? s.length() : i < s.length() ? s.charAt(i) - 'a' : NONE;
    }

    public int picks() {
        return now.asleep() ? NONE : now.picked();
    }

    public long length() {
        return now.street.length();
    }

    public int letter(long place) {
        return place < 0 ? -3 : place >= now.street.length() ? NONE : now.street.charAt((int) place) - 'a';
    }

    public long count(int letter, long place) {
        if (noLetter(letter)) {
            return -2;
        }
        if (place < 0 || place > now.street.length()) {
            return -3;
        }
        return now.street.substring(0, (int) place).chars().filter(c -> c == 'a' + letter).count();
    }

    public long place(int letter, long k) {
        if (noLetter(letter)) {
            return -2;
        }
        if (k < 1) {
            return -3;
        }
        long seen = 0;
        for (int i = 0; i < now.street.length(); i++) {
            if (now.street.charAt(i) == 'a' + letter && ++seen == k) {
                return i;
            }
        }
        return NONE;
    }

    private void remember(Now was) {
        past.addLast(was);
        if (past.size() > 10) {
            past.removeFirst();
        }
    }

    public long night(int deed) {
        if (deed < 0 || deed > 3) {
            return -11;
        }
        Now was = now.copy();
        int why = now.deed(deed);
        if (why != 0) {
            return -10 - why;
        }
        remember(was);
        return now.street.length();
    }

    public int nights(int n) {
        if (n < 1 || n > 60) {
            return -3;
        }
        Now was = now.copy();
        int done = 0;
        while (done < n && now.deed(0) == 0) {
            done++;
        }
        if (done > 0) {
            remember(was);
        }
        return done;
    }

    public int moon(int n) {
        if (n < 0 || n > 9) {
            return -11;
        }
        remember(now.copy());
        int was = now.moon;
        now.moon = n;
        return was;
    }

    public int undo(int n) {
        if (n < 1 || n > 10 || n > past.size()) {
            return -3;
        }
        for (int i = 0; i < n; i++) {
            now = past.removeLast();
        }
        return past.size();
    }

    private boolean noTray(int tray) {
        return tray < 0 || tray > 3;
    }

    public int judge(int tray, int what) {
        if (noTray(tray) || what < 0 || what > 3) {
            return -2;
        }
        if (trays[tray] == null) {
            return -6;
        }
        Now then = now.copy();
        int place = NONE;
        int why = 0;
        for (int i = 0; i < trays[tray].length && why == 0; i++) {
            why = then.deed(trays[tray][i]);
            place = why == 0 ? NONE : i;
        }
        return new int[] {place, why, then.street.length() % 1000000, then.front()}[what];
    }

    public int perform(int tray) {
        if (noTray(tray)) {
            return -2;
        }
        if (trays[tray] == null) {
            return -6;
        }
        Now was = now.copy();
        int done = 0;
        for (long v : trays[tray]) {
            if (now.deed(v) != 0) {
                break;
            }
            done++;
        }
        if (done > 0) {
            remember(was);
        }
        return done;
    }

    private int x;

    private int draw() {
        x = 1103515245 * x + 12345;
        return x >>> 16;
    }

    public int year(int seed, int times) {
        if (times < 1 || times > 20) {
            return -3;
        }
        Now was = now.copy();
        x = seed;
        int done = 0;
        for (int i = 0; i < times; i++) {
            int d = draw() % 5;
            long deed = d < 2 ? 0 : d < 4 ? draw() % 4 : 10 + draw() % 10;
            done += now.deed(deed) == 0 ? 1 : 0;
        }
        if (done > 0) {
            remember(was);
        }
        return done;
    }

    private int wordRefused(int tray) {
        if (noTray(tray)) {
            return -2;
        }
        if (trays[tray] == null) {
            return -6;
        }
        if (trays[tray].length < 1 || trays[tray].length > 6) {
            return -4;
        }
        for (long v : trays[tray]) {
            if (noLetter(v)) {
                return -3;
            }
        }
        return 0;
    }

    private String word(int tray) {
        StringBuilder b = new StringBuilder();
        for (long v : trays[tray]) {
            b.append((char) ('a' + v));
        }
        return b.toString();
    }

    public long occurs(int tray) {
        int refused = wordRefused(tray);
        if (refused != 0) {
            return refused;
        }
        String w = word(tray);
        long many = 0;
        for (int at = now.street.indexOf(w); at >= 0; at = now.street.indexOf(w, at + 1)) {
            many++;
        }
        return many;
    }

    public long first(int tray) {
        int refused = wordRefused(tray);
        return refused != 0 ? refused : now.street.indexOf(word(tray));
    }

    private void readBack(String rest, String so, int table, List<String> found) {
        if (rest.isEmpty()) {
            found.add(so);
        }
        for (int x = 0; x < 6; x++) {
            String s = now.told.rules[table][x];
            if (!s.isEmpty() && rest.startsWith(s)) {
                readBack(rest.substring(s.length()), so + (char) ('a' + x), table, found);
            }
        }
    }

    public int backs(int tray, int table) {
        if (noTray(tray) || noTable(table)) {
            return -2;
        }
        int refused = wordRefused(tray);
        if (refused != 0) {
            return refused;
        }
        List<String> found = new ArrayList<>();
        readBack(word(tray), "", table, found);
        return found.size();
    }

    public int backBy(int tray, int table, int i) {
        int many = backs(tray, table);
        if (many < 0) {
            return many;
        }
        if (i < 0) {
            return -3;
        }
        List<String> found = new ArrayList<>();
        readBack(word(tray), "", table, found);
        found.sort(null);
        return found.isEmpty() || i >= found.get(0).length() ? NONE : found.get(0).charAt(i) - 'a';
    }

    /** Lengths of one letter's offspring by nights, as numbers without end. */
    private BigInteger[] growth(int table, int letter, int nights) {
        BigInteger[] many = new BigInteger[6];
        java.util.Arrays.fill(many, BigInteger.ZERO);
        many[letter] = BigInteger.ONE;
        BigInteger[] lengths = new BigInteger[nights + 1];
        for (int n = 0; n <= nights; n++) {
            BigInteger sum = BigInteger.ZERO;
            BigInteger[] next = new BigInteger[6];
            java.util.Arrays.fill(next, BigInteger.ZERO);
            for (int x = 0; x < 6; x++) {
                sum = sum.add(many[x]);
                for (char c : now.told.rules[table][x].toCharArray()) {
                    next[c - 'a'] = next[c - 'a'].add(many[x]);
                }
            }
            lengths[n] = sum;
            many = next;
        }
        return lengths;
    }

    public int fate(int table, int letter) {
        if (noTable(table) || noLetter(letter)) {
            return -2;
        }
        // Told by the lengths themselves: six letters show their hand well before 720 nights
        // (60 is a multiple of all cycles' sizes).
        BigInteger[] l = growth(table, letter, 720);
        if (l[720].signum() == 0) {
            return 0;
        }
        if (l[720].bitLength() > 100) {
            return 3;
        }
        return l[720].equals(l[660]) ? 1 : 2;
    }

    public int degree(int table, int letter) {
        int fate = fate(table, letter);
        if (fate != 2) {
            return fate == -2 ? -2 : NONE;
        }
        // Behind the first nights the lengths, 60 nights apart, are values of a polynomial.
        BigInteger[] l = growth(table, letter, 720);
        List<BigInteger> values = new ArrayList<>();
        for (int n = 60; n <= 720; n += 60) {
            values.add(l[n]);
        }
        for (int degree = 0;; degree++) {
            if (values.stream().distinct().count() == 1) {
                return degree;
            }
            List<BigInteger> differences = new ArrayList<>();
            for (int i = 1; i < values.size(); i++) {
                differences.add(values.get(i).subtract(values.get(i - 1)));
            }
            values = differences;
        }
    }

    public int begins(int table) {
        if (noTable(table)) {
            return -2;
        }
        int bits = 0;
        for (int x = 0; x < 6; x++) {
            String s = now.told.rules[table][x];
            bits |= s.length() > 1 && s.indexOf('a' + x) == 0 ? 1 << x : 0;
        }
        return bits;
    }

    public int comes(int letter) {
        if (noLetter(letter)) {
            return -2;
        }
        Set<Set<Character>> level = new HashSet<>();
        level.add(kinds(now.street));
        for (int nights = 0; nights < 70; nights++) {
            Set<Set<Character>> next = new HashSet<>();
            for (Set<Character> kinds : level) {
                if (kinds.contains((char) ('a' + letter))) {
                    return nights;
                }
                for (int t = 0; t < now.told.tables; t++) {
                    StringBuilder b = new StringBuilder();
                    for (char c : kinds) {
                        b.append(now.told.rules[t][c - 'a']);
                    }
                    next.add(kinds(b.toString()));
                }
            }
            level = next;
        }
        return NONE;
    }

    private static Set<Character> kinds(String s) {
        Set<Character> kinds = new HashSet<>();
        for (char c : s.toCharArray()) {
            kinds.add(c);
        }
        return kinds;
    }

    /** The length behind a row, told from its last night back to its first. */
    private long lengthBehind(int[] row, int size) {
        long[] length = {1, 1, 1, 1, 1, 1};
        for (int i = size - 1; i >= 0; i--) {
            long[] longer = new long[6];
            for (int x = 0; x < 6; x++) {
                for (char c : now.told.rules[row[i]][x].toCharArray()) {
                    longer[x] += length[c - 'a'];
                }
            }
            length = longer;
        }
        long sum = 0;
        for (char c : now.street.toCharArray()) {
            sum += length[c - 'a'];
        }
        return sum;
    }

    /** All rows of so many nights, in their order. */
    private List<int[]> allRows(int nights) {
        List<int[]> rows = new ArrayList<>();
        int many = 1;
        for (int i = 0; i < nights; i++) {
            many *= now.told.tables;
        }
        for (int code = 0; code < many; code++) {
            int[] row = new int[nights];
            int rest = code;
            for (int i = nights - 1; i >= 0; i--) {
                row[i] = rest % now.told.tables;
                rest /= now.told.tables;
            }
            rows.add(row);
        }
        return rows;
    }

    private int[] soonestRow(long n) {
        for (int nights = 0; nights <= 6; nights++) {
            for (int[] row : allRows(nights)) {
                if (lengthBehind(row, nights) == n) {
                    return row;
                }
            }
        }
        return null;
    }

    public int soonest(long n) {
        if (n < 0) {
            return -3;
        }
        int[] row = soonestRow(n);
        return row == null ? NONE : row.length;
    }

    public int way(long n, int i) {
        if (n < 0 || i < 0) {
            return -3;
        }
        int[] row = soonestRow(n);
        return row == null || i >= row.length ? NONE : row[i];
    }

    public int rows(long n, int k) {
        if (n < 0 || k < 0 || k > 7) {
            return -3;
        }
        int many = 0;
        for (int[] row : allRows(k)) {
            many += lengthBehind(row, k) == n ? 1 : 0;
        }
        return many;
    }

    private int lengthsRefused(int tray, long least) {
        if (noTray(tray)) {
            return -2;
        }
        if (trays[tray] == null) {
            return -6;
        }
        if (trays[tray].length < 1 || trays[tray].length > 8) {
            return -4;
        }
        for (long v : trays[tray]) {
            if (v < least) {
                return -3;
            }
        }
        return 0;
    }

    private List<int[]> longRows(int tray) {
        List<int[]> rows = allRows(trays[tray].length);
        rows.removeIf(row -> {
            for (int i = 0; i < row.length; i++) {
                if (trays[tray][i] != NONE && lengthBehind(row, i + 1) != trays[tray][i]) {
                    return true;
                }
            }
            return false;
        });
        return rows;
    }

    public int longBy(int tray) {
        int refused = lengthsRefused(tray, -1);
        return refused != 0 ? refused : longRows(tray).size();
    }

    public int tables(int tray, int i) {
        int refused = lengthsRefused(tray, -1);
        if (refused != 0) {
            return refused;
        }
        if (i < 0) {
            return -3;
        }
        if (i >= trays[tray].length) {
            return -7;
        }
        int bits = 0;
        for (int[] row : longRows(tray)) {
            bits |= 1 << row[i];
        }
        return bits;
    }

    public int moons(int tray) {
        int refused = lengthsRefused(tray, 0);
        if (refused != 0) {
            return refused;
        }
        int bits = 0;
        for (int moon = 0; moon < 10; moon++) {
            Now then = now.copy();
            then.moon = moon;
            boolean so = true;
            for (long v : trays[tray]) {
                so = so && then.deed(0) == 0 && then.street.length() == v;
            }
            bits |= so ? 1 << moon : 0;
        }
        return bits;
    }

    public int attempt(int tray) {
        int refused = lengthsRefused(tray, -1);
        if (refused != 0) {
            return refused;
        }
        List<int[]> rows = longRows(tray);
        if (rows.isEmpty()) {
            return NONE;
        }
        int least = Integer.MAX_VALUE;
        int best = NONE;
        for (int t = 0; t < now.told.tables; t++) {
            Map<Long, Integer> many = new HashMap<>();
            for (int[] row : rows) {
                int[] more = java.util.Arrays.copyOf(row, row.length + 1);
                more[row.length] = t;
                many.merge(lengthBehind(more, more.length), 1, Integer::sum);
            }
            int greatest = many.values().stream().max(Integer::compare).get();
            if (greatest < least) {
                least = greatest;
                best = t;
            }
        }
        return best;
    }

    private long turnedFrom(int[] row, int at, int n) {
        if (at == n) {
            return lengthBehind(row, n);
        }
        TreeMap<Long, Integer> ends = new TreeMap<>();
        for (int t = 0; t < now.told.tables; t++) {
            row[at] = t;
            ends.putIfAbsent(turnedFrom(row, at + 1, n), t);
        }
        Map.Entry<Long, Integer> end = at % 2 == 0 ? ends.lastEntry() : ends.firstEntry();
        if (at == 0) {
            bestTable = end.getValue();
        }
        return end.getKey();
    }

    private int bestTable;

    public long turned(int n) {
        return n < 0 || n > 7 ? -3 : turnedFrom(new int[n], 0, n);
    }

    public int best(int n) {
        if (n < 0 || n > 7) {
            return -3;
        }
        turned(n);
        return n == 0 ? NONE : bestTable;
    }

    private static long lowest(BigInteger above, BigInteger below, int what) {
        BigInteger g = above.gcd(below);
        return (what == 0 ? above : below).divide(g).longValueExact();
    }

    private long vanishing(Set<Character> kinds, int n, Map<String, Long> known) {
        if (n == 0) {
            return kinds.isEmpty() ? 1 : 0;
        }
        String key = n + " " + kinds;
        Long k = known.get(key);
        if (k == null) {
            long sum = 0;
            for (int t = 0; t < now.told.tables; t++) {
                Set<Character> next = new HashSet<>();
                for (char c : kinds) {
                    next.addAll(kinds(now.told.rules[t][c - 'a']));
                }
                sum += vanishing(next, n - 1, known);
            }
            k = sum;
            known.put(key, k);
        }
        return k;
    }

    public int chance(int n, int what) {
        if (what < 0 || what > 1) {
            return -2;
        }
        if (n < 0 || n > 12) {
            return -3;
        }
        long above = vanishing(kinds(now.street), n, new HashMap<>());
        return (int) lowest(BigInteger.valueOf(above), BigInteger.valueOf(now.told.tables).pow(n), what);
    }

    public long mean(int n, int what) {
        if (what < 0 || what > 1) {
            return -2;
        }
        if (n < 0 || n > 6) {
            return -3;
        }
        BigInteger sum = BigInteger.ZERO;
        for (int[] row : allRows(n)) {
            sum = sum.add(BigInteger.valueOf(lengthBehind(row, n)));
        }
        return lowest(sum, BigInteger.valueOf(now.told.tables).pow(n), what);
    }

    public int numbers(int tray, int sort, int n) {
        if (noTray(tray) || sort < 0 || sort > 3) {
            return -2;
        }
        if (n < 0 || n > 40) {
            return -3;
        }
        trays[tray] = new long[n];
        sorts[tray] = sort;
        return 0;
    }

    public long write(int tray, int i, long v) {
        if (noTray(tray)) {
            return -2;
        }
        if (trays[tray] == null) {
            return -6;
        }
        if (i < 0 || i >= trays[tray].length) {
            return -7;
        }
        int cut = 64 - (8 << sorts[tray]);
        trays[tray][i] = v << cut >> cut;
        return trays[tray][i];
    }

    public int lists(int tray, long place) {
        if (noTray(tray)) {
            return -2;
        }
        if (trays[tray] == null) {
            return -6;
        }
        if (place < 0 || place > now.street.length()) {
            return -3;
        }
        int i = 0;
        while (i < trays[tray].length && place + i < now.street.length()) {
            trays[tray][i] = letter(place + i);
            i++;
        }
        return i;
    }

    public int image(int i) {
        if (i < 0 || i > 1) {
            return -2;
        }
        images[i] = now.copy();
        return 0;
    }

    public int restore(int i) {
        if (i < 0 || i > 1) {
            return -2;
        }
        if (images[i] == null) {
            return -5;
        }
        now = images[i].copy();
        past.clear();
        return 0;
    }

    public int told(int what) {
        switch (what) {
            case 0: return now.told.tables;
            case 1: return now.moon;
            case 2: return now.nights;
            case 3: return now.awake;
            case 4: return now.front();
            case 5: return now.back();
            case 6: return kinds(now.street).size();
            case 7: return past.size();
            case 8: return tape.length();
            case 9: return now.told.lines;
            default: return NONE;
        }
    }
}
