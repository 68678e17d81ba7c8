/** Promises 25 to 36: rows, long, by turns, chances. */
public final class RowsTest {
    private static final Due due = new Due();

    public static void main(String[] args) {
        comes();
        soonest();
        rows();
        longRows();
        refusedLengths();
        moons();
        attempts();
        turns();
        chances();
        means();
        due.close("RowsTest");
    }

    private static void comes() {
        LetterNights x = Due.street("street tables 3 moon 0;stands ab;rule 0 b : c;rule 1 c : dd;rule 2 d : ae;rule 2 f : a;");
        int[] nights = {0, 0, 1, 2, 3, -1};
        for (int letter = 0; letter < 6; letter++) {
            due.is("25: letter " + letter, x.comes(letter), nights[letter]);
        }
        due.is("25: no letter", x.comes(6), -2);
        due.is("25: no letter", x.comes(-1), -2);
        LetterNights y = Due.street("street tables 1 moon 0;rule 0 a : b;rule 0 b : c;rule 0 c : d;rule 0 d : e;rule 0 e : f;rule 0 f : nothing;");
        due.is("25: five nights", y.comes(5), 5);
        y.night(0);
        due.is("25: gone for ever", y.comes(0), -1);
        y.nights(5);
        due.is("25: nothing is left", y.comes(5), -1);
        LetterNights z = new LetterNights();
        z.nights(60);
        due.is("25: behind sixty nights", z.comes(0), 0);
    }

    private static final String DOUBLE_OR_MORE = "street tables 3 moon 0;rule 0 a : aa;rule 1 a : aaa;rule 2 a : ab;rule 2 b : nothing;";

    private static void way(LetterNights x, long n, int... row) {
        due.is("26: " + n, x.soonest(n), row.length);
        for (int i = 0; i < row.length; i++) {
            due.is("27: " + n + ", " + i, x.way(n, i), row[i]);
        }
        due.is("27: " + n + ", not so many", x.way(n, row.length), -1);
    }

    private static void soonest() {
        LetterNights x = Due.street(DOUBLE_OR_MORE);
        way(x, 1);
        way(x, 2, 0);
        way(x, 3, 1);
        way(x, 4, 0, 0);
        way(x, 6, 0, 1);
        way(x, 9, 1, 1);
        way(x, 64, 0, 0, 0, 0, 0, 0);
        way(x, 729, 1, 1, 1, 1, 1, 1);
        way(x, 486, 0, 1, 1, 1, 1, 1);
        due.is("26: seven nights are too many", x.soonest(128), -1);
        due.is("27: none", x.way(128, 0), -1);
        due.is("26: none", x.soonest(11), -1);
        due.is("26: below 0", x.soonest(-1), -3);
        due.is("27: below 0", x.way(-1, 0), -3);
        due.is("27: below 0", x.way(2, -1), -3);
        due.is("27: far on", x.way(2, Integer.MAX_VALUE), -1);
        due.is("26: far on", x.soonest(Long.MAX_VALUE), -1);
        LetterNights y = Due.street("street tables 2 moon 0;rule 0 a : b;rule 1 b : nothing;");
        way(y, 0, 0, 1);
        y.nights(60);
        way(y, 0, 1);
        LetterNights z = Due.street("street tables 1 moon 0;rule 0 a : aaaa;");
        z.nights(19);
        way(z, 1L << 50, 0, 0, 0, 0, 0, 0);
    }

    private static void rows() {
        LetterNights x = Due.street(DOUBLE_OR_MORE);
        due.is("28: no night", x.rows(1, 0), 1);
        due.is("28: no night", x.rows(2, 0), 0);
        due.is("28: one night", x.rows(2, 1), 2);
        due.is("28: two nights, ab", x.rows(2, 2), 1);
        due.is("28: two nights, aab", x.rows(3, 2), 1);
        due.is("28: two nights, aaaa, abab, aaab", x.rows(4, 2), 3);
        due.is("28: two nights, aaaaaa twice, ababab", x.rows(6, 2), 3);
        int all = 0;
        LetterNights y = x;
        for (int n = 0; n <= 2187; n++) {
            y = n % 500 == 0 ? Due.street(DOUBLE_OR_MORE) : y;
            all += y.rows(n, 7);
        }
        due.is("28: all rows of seven nights", all, 2187);
        due.is("28: 3 to the 7th", x.rows(2187, 7), 1);
        due.is("28: n below 0", x.rows(-1, 7), -3);
        due.is("28: k below 0", x.rows(1, -1), -3);
        due.is("28: k above 7", x.rows(1, 8), -3);
    }

    private static void longRows() {
        LetterNights x = Due.street(DOUBLE_OR_MORE);
        Due.tray(x, 0, 2, -1);
        due.is("29: 2 and whatever", x.longBy(0), 6);
        due.is("30: first", x.tables(0, 0), 5);
        due.is("30: second", x.tables(0, 1), 7);
        Due.tray(x, 0, 2, 4);
        due.is("29: aaaa, abab, aaab", x.longBy(0), 3);
        due.is("30: first", x.tables(0, 0), 5);
        due.is("30: second", x.tables(0, 1), 7);
        Due.tray(x, 0, 2, 4, 9);
        due.is("29: aaab by table 1 is longer by 6", x.longBy(0), 0);
        Due.tray(x, 0, -1, 4, 10);
        due.is("29: abab to aaabaaab is 8, aaab to ten", x.longBy(0), 1);
        due.is("30: first", x.tables(0, 0), 4);
        due.is("30: second", x.tables(0, 1), 2);
        due.is("30: third", x.tables(0, 2), 2);
        Due.tray(x, 0, 2, 2, -1);
        due.is("29: ab to ab", x.longBy(0), 3);
        due.is("30: first", x.tables(0, 0), 4);
        due.is("30: second", x.tables(0, 1), 4);
        due.is("30: third", x.tables(0, 2), 7);
        Due.tray(x, 0, -1, 7);
        due.is("29: none", x.longBy(0), 0);
        due.is("30: none", x.tables(0, 0), 0);
        due.is("30: none", x.tables(0, 1), 0);
        due.is("32: none", x.attempt(0), -1);
        Due.tray(x, 0, -1, -1, -1, -1, -1, -1, -1, -1);
        due.is("29: all", x.longBy(0), 6561);
        due.is("30: all", x.tables(0, 7), 7);
        x.numbers(0, 0, 1);
        x.write(0, 0, 255);
        due.is("29: 255 of 8 bits is NONE", x.longBy(0), 3);
        LetterNights y = Due.street("street tables 1 moon 0;rule 0 a : aaaa;");
        y.nights(19);
        Due.tray(y, 0, 1L << 40, 1L << 42, 1L << 44, 1L << 46, 1L << 48, 1L << 50, 1L << 52, 1L << 54);
        due.is("29: however long", y.longBy(0), 1);
        due.is("32: however long", y.attempt(0), 0);
    }

    private static void refusedLengths() {
        LetterNights x = new LetterNights();
        due.is("29: missing", x.longBy(0), -6);
        due.is("30: missing", x.tables(0, -1), -6);
        due.is("31: missing", x.moons(0), -6);
        due.is("32: missing", x.attempt(0), -6);
        for (int tray : new int[] {-1, 4}) {
            due.is("29: no tray", x.longBy(tray), -2);
            due.is("30: no tray", x.tables(tray, 0), -2);
            due.is("31: no tray", x.moons(tray), -2);
            due.is("32: no tray", x.attempt(tray), -2);
        }
        for (int many : new int[] {0, 9}) {
            x.numbers(0, 2, many);
            due.is("29: so many", x.longBy(0), -4);
            due.is("30: so many", x.tables(0, -1), -4);
            due.is("31: so many", x.moons(0), -4);
            due.is("32: so many", x.attempt(0), -4);
        }
        Due.tray(x, 0, 1, -2);
        due.is("29: below NONE", x.longBy(0), -3);
        due.is("30: below NONE", x.tables(0, 9), -3);
        due.is("31: below 0", x.moons(0), -3);
        due.is("32: below NONE", x.attempt(0), -3);
        Due.tray(x, 0, 1, -1);
        due.is("31: NONE", x.moons(0), -3);
        due.is("30: i below 0", x.tables(0, -1), -3);
        due.is("30: no such night", x.tables(0, 2), -7);
        due.is("30: a night", x.tables(0, 1), 1);
    }

    private static void moons() {
        LetterNights x = Due.street("street tables 2 moon 3;rule 1 a : aa;picks : if night = 1 then moon + 1 else moon end;"
                + "sleeps : moon = 9 and night = 0;");
        // The first night doubles by an odd moon (9: all sleeps), the second one by an even one.
        Due.tray(x, 0, 2, 2);
        due.is("31: odd ones", x.moons(0), 1 << 1 | 1 << 3 | 1 << 5 | 1 << 7);
        Due.tray(x, 0, 1, 2);
        due.is("31: even ones", x.moons(0), 1 | 1 << 2 | 1 << 4 | 1 << 6 | 1 << 8);
        Due.tray(x, 0, 1, 1);
        due.is("31: 9", x.moons(0), 1 << 9);
        Due.tray(x, 0, 1, 3);
        due.is("31: none", x.moons(0), 0);
        due.is("31: nothing was done", x.told(1), 3);
        due.is("31: nothing was done", x.told(2), 0);
        LetterNights y = Due.street("street tables 1 moon 0;sleeps : moon > 6;");
        y.nights(58);
        Due.tray(y, 0, 1, 1);
        due.is("31: two nights are left", y.moons(0), 1023);
        Due.tray(y, 0, 1, 1, 1);
        due.is("31: no third one, but to sleep", y.moons(0), 1 << 7 | 1 << 8 | 1 << 9);
        LetterNights z = Due.street("street tables 2 moon 0;rule 0 a : aa;picks : moon;");
        z.nights(39);
        Due.tray(z, 0, 1L << 39);
        due.is("31: longer than the most can't be", z.moons(0), 0b1010101010);
        Due.tray(z, 0, 1L << 40);
        due.is("31: longer than the most can't be", z.moons(0), 0);
    }

    private static void attempts() {
        // Behind one night a, b or c; only table 2 tells them all apart.
        LetterNights x = Due.street("street tables 3 moon 0;rule 1 a : b;rule 2 a : c;rule 1 b : bb;rule 1 c : cc;rule 2 b : bb;rule 2 c : ccc;");
        Due.tray(x, 0, 1);
        due.is("32: table 2", x.attempt(0), 2);
        LetterNights y = Due.street("street tables 3 moon 0;rule 1 a : b;rule 2 a : c;rule 1 b : bb;rule 2 c : cc;");
        Due.tray(y, 0, 1);
        due.is("32: table 1 as well as 2", y.attempt(0), 1);
        due.is("32: one table", one(), 0);
        LetterNights z = Due.street(DOUBLE_OR_MORE);
        Due.tray(z, 0, -1, -1, -1, -1, -1, -1, -1, -1);
        // 0 and 1 keep apart what 2 throws together: the b.
        due.is("32: of all rows", z.attempt(0), greatestLeast());
        Due.tray(z, 0, 2);
        due.is("32: aaaa or aab by table 0", z.attempt(0), 0);
        LetterNights last = Due.street("street tables 2 moon 0;stands ab;rule 0 a : bb;rule 0 b : nothing;rule 1 b : nothing;rule 1 a : ab;");
        Due.tray(last, 0, 2);
        due.is("32: bb to nothing, ab to bb; bb to nothing, ab to ab", last.attempt(0), 0);
    }

    private static int one() {
        LetterNights x = new LetterNights();
        Due.tray(x, 0, -1, 1);
        return x.attempt(0);
    }

    private static int greatestLeast() {
        java.util.List<java.util.Map<Long, Integer>> many = new java.util.ArrayList<>();
        for (int t = 0; t < 3; t++) {
            many.add(new java.util.HashMap<>());
        }
        for (int row = 0; row < 6561; row++) {
            long a = 1;
            long b = 0;
            for (int i = 0, rest = row; i < 8; i++, rest /= 3) {
                int t = rest % 3;
                b = t == 2 ? a : b;
                a = t == 2 ? a : a * (t + 2);
            }
            many.get(0).merge(2 * a + b, 1, Integer::sum);
            many.get(1).merge(3 * a + b, 1, Integer::sum);
            many.get(2).merge(2 * a, 1, Integer::sum);
        }
        int least = 0;
        for (int t = 1; t < 3; t++) {
            if (java.util.Collections.max(many.get(t).values()) < java.util.Collections.max(many.get(least).values())) {
                least = t;
            }
        }
        return least;
    }

    private static void turns() {
        LetterNights x = Due.street(DOUBLE_OR_MORE);
        long[] lengths = {1, 3, 6, 12};
        for (int n = 0; n < lengths.length; n++) {
            due.is("33: " + n, x.turned(n), lengths[n]);
        }
        due.is("34: more at once", x.best(1), 1);
        due.is("34: no night", x.best(0), -1);
        due.is("33: below 0", x.turned(-1), -3);
        due.is("33: above 7", x.turned(8), -3);
        due.is("34: below 0", x.best(-1), -3);
        due.is("34: above 7", x.best(8), -3);
        // The first one's b can't be killed by the other one, its aa can.
        LetterNights y = Due.street("street tables 3 moon 0;rule 0 a : aaa;rule 1 a : bb;rule 2 a : nothing;");
        due.is("33: for one night", y.turned(1), 3);
        due.is("34: for one night", y.best(1), 0);
        due.is("33: for two nights", y.turned(2), 2);
        due.is("34: for two nights", y.best(2), 1);
        due.is("33: for seven nights", y.turned(7), 2);
        due.is("34: for seven nights", y.best(7), 1);
        LetterNights z = Due.street("street tables 3 moon 0;");
        due.is("34: the first of like ones", z.best(7), 0);
    }

    private static void chances() {
        LetterNights x = Due.street("street tables 3 moon 0;rule 0 a : nothing;");
        long left = 1;
        long all = 1;
        for (int n = 0; n <= 12; n++) {
            due.is("35: above, " + n, x.chance(n, 0), n == 0 ? 0 : all - left);
            due.is("35: below, " + n, x.chance(n, 1), n == 0 ? 1 : all);
            left *= 2;
            all *= 3;
        }
        due.is("35: no such what", x.chance(13, 2), -2);
        due.is("35: no such what", x.chance(1, -1), -2);
        due.is("35: n above 12", x.chance(13, 0), -3);
        due.is("35: n below 0", x.chance(-1, 1), -3);
        x.night(1);
        due.is("35: nothing is left", x.chance(0, 0), 1);
        due.is("35: nothing is left", x.chance(12, 1), 1);
        LetterNights y = Due.street("street tables 2 moon 0;stands ab;rule 0 a : nothing;rule 1 b : nothing;");
        due.is("35: both are gone", y.chance(2, 0), 1);
        due.is("35: both are gone, lowest terms", y.chance(2, 1), 2);
        due.is("35: by three", y.chance(3, 0), 3);
        due.is("35: by three", y.chance(3, 1), 4);
        LetterNights never = new LetterNights();
        due.is("35: never", never.chance(12, 0), 0);
        due.is("35: never", never.chance(12, 1), 1);
    }

    private static void means() {
        LetterNights x = Due.street("street tables 2 moon 0;rule 0 a : aa;");
        long[] above = {1, 3, 9, 27, 81, 243, 729};
        for (int n = 0; n <= 6; n++) {
            due.is("36: above, " + n, x.mean(n, 0), above[n]);
            due.is("36: below, " + n, x.mean(n, 1), 1L << n);
        }
        due.is("36: no such what", x.mean(7, 2), -2);
        due.is("36: no such what", x.mean(0, -1), -2);
        due.is("36: n above 6", x.mean(7, 0), -3);
        due.is("36: n below 0", x.mean(-1, 0), -3);
        LetterNights y = Due.street("street tables 3 moon 0;rule 0 a : nothing;rule 1 a : aa;rule 2 a : aaaa;");
        due.is("36: lowest terms", y.mean(1, 0), 2);
        due.is("36: lowest terms", y.mean(1, 1), 1);
        y.night(1);
        due.is("36: nothing", y.mean(3, 0), 0);
        due.is("36: nothing", y.mean(3, 1), 1);
        LetterNights z = Due.street("street tables 3 moon 0;stands ae;rule 0 a : aaaa;rule 1 a : aaaa;rule 2 a : aaaa;rule 0 e : ef;");
        z.nights(19);
        z.night(2);
        due.is("36: the a would be too many", z.length(), (1L << 38) + 20);
        due.is("36: a third f more", z.mean(1, 0), 3 * ((1L << 40) + 20) + 1);
        due.is("36: a third f more", z.mean(1, 1), 3);
        due.is("36: two f more", z.mean(6, 0), (1L << 50) + 22);
        due.is("36: two f more", z.mean(6, 1), 1);
    }
}
