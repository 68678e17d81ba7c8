import java.math.BigInteger;
import java.util.ArrayList;
import java.util.Collections;
import java.util.HashMap;
import java.util.List;
import java.util.Map;

/** The edges of rows, long, by turns and chances (promises 25 to 36). */
public final class RowsBoundsTest {
    private static final Due due = new Due();
    /** Twice, three or four times as long, by the table of the night. */
    private static final String GROWING = "street tables 3 moon 0;rule 0 a : aa;rule 1 a : aaa;rule 2 a : aaaa;";

    public static void main(String[] args) {
        comesLate();
        comesNever();
        soonestAndLatest();
        ofLikeRowsTheFirst();
        noLimits();
        rowsOfSoMany();
        longOfSoMany();
        longNotKnown();
        whichTables();
        moonsThatCanBe();
        moonsAtTheMost();
        attempts();
        attemptsOfMany();
        turns();
        turnsOfLikeOnes();
        askedAlone();
        chancesOfSoMany();
        chancesInLowestTerms();
        means();
        meansOfTheMost();
        due.close("RowsBoundsTest");
    }

    private static void comesLate() {
        String text = "street tables 2 moon 0;rule 1 a : b;rule 0 b : c;rule 1 c : d;rule 0 d : e;rule 1 e : f;";
        LetterNights x = Due.street(text);
        for (int letter = 0; letter < 6; letter++) {
            due.is("25: letter " + letter, x.comes(letter), letter);
        }
        due.is("25: below the first letter", x.comes(-1), -2);
        due.is("25: behind the last letter", x.comes(6), -2);
        x.night(2);
        due.is("25: from b on, a never", x.comes(0), -1);
        due.is("25: b stands there", x.comes(1), 0);
        due.is("25: four nights", x.comes(5), 4);
        // Fewest nights, not the first way: e in two by table 1, in three by table 0.
        LetterNights y = Due.street("street tables 2 moon 0;stands aaf;rule 0 a : b;rule 0 b : c;rule 0 c : e;rule 1 a : d;rule 1 d : e;");
        due.is("25: the shorter way", y.comes(4), 2);
        due.is("25: the last place counts", y.comes(5), 0);
    }

    private static void comesNever() {
        LetterNights x = new LetterNights();
        due.is("25: it stands", x.comes(0), 0);
        for (int letter = 1; letter < 6; letter++) {
            due.is("25: never " + letter, x.comes(letter), -1);
        }
        LetterNights none = Due.street("street tables 1 moon 0;rule 0 a : nothing;");
        none.night(0);
        for (int letter = 0; letter < 6; letter++) {
            due.is("25: of nothing never " + letter, none.comes(letter), -1);
        }
        LetterNights sixty = Due.street("street tables 2 moon 0;rule 1 a : b;sleeps : moon = 0;");
        for (int i = 0; i < 60; i++) {
            sixty.night(1);
        }
        due.is("25: however many nights there were", sixty.comes(1), 1);
    }

    private static void row(LetterNights x, long n, int... tables) {
        due.is("26: " + n, x.soonest(n), tables.length);
        for (int i = 0; i < tables.length; i++) {
            due.is("27: " + n + ", night " + i, x.way(n, i), tables[i]);
        }
        due.is("27: " + n + ", behind the last", x.way(n, tables.length), -1);
        due.is("27: " + n + ", far behind", x.way(n, Integer.MAX_VALUE), -1);
        due.is("27: " + n + ", ahead of the first", x.way(n, -1), -3);
    }

    private static void none(LetterNights x, long n) {
        due.is("26: " + n + " never", x.soonest(n), -1);
        due.is("27: " + n + " never", x.way(n, 0), -1);
        due.is("27: " + n + " never, i is below 0", x.way(n, -1), -3);
    }

    private static void soonestAndLatest() {
        LetterNights x = Due.street(GROWING);
        row(x, 1);
        row(x, 2, 0);
        row(x, 3, 1);
        row(x, 4, 2);
        row(x, 6, 0, 1);
        row(x, 4096, 2, 2, 2, 2, 2, 2);
        row(x, 729, 1, 1, 1, 1, 1, 1);
        row(x, 3072, 1, 2, 2, 2, 2, 2);
        row(x, 2048, 0, 2, 2, 2, 2, 2);
        none(x, 0);
        none(x, 5);
        none(x, 16384);
        none(x, 2187);
        none(x, Long.MAX_VALUE);
        due.is("26: below 0", x.soonest(-1), -3);
        due.is("27: below 0", x.way(-1, 0), -3);
        LetterNights gone = Due.street("street tables 1 moon 0;rule 0 a : nothing;");
        row(gone, 0, 0);
        gone.night(0);
        row(gone, 0);
        none(gone, 1);
        LetterNights six = Due.street("street tables 1 moon 0;rule 0 a : b;rule 0 b : c;rule 0 c : d;rule 0 d : e;rule 0 e : f;rule 0 f : ff;");
        row(six, 2, 0, 0, 0, 0, 0, 0);
        none(six, 4);
        six.night(0);
        row(six, 4, 0, 0, 0, 0, 0, 0);
        none(six, 8);
    }

    private static void ofLikeRowsTheFirst() {
        LetterNights x = Due.street("street tables 3 moon 0;stands ab;rule 1 a : aa;rule 2 a : aa;rule 2 b : bb;rule 0 b : nothing;");
        row(x, 3, 1);
        row(x, 4, 2);
        row(x, 1, 0);
        row(x, 5, 1, 1);
        row(x, 6, 1, 2);
        row(x, 8, 2, 2);
        row(x, 9, 1, 1, 1);
    }

    private static void noLimits() {
        LetterNights x = Due.longStreet(Due.MOST, "rule 2 a : aaaa;rule 2 c : cccc;");
        row(x, Due.MOST);
        row(x, Due.MOST << 2, 2);
        row(x, Due.MOST << 12, 2, 2, 2, 2, 2, 2);
        row(x, Due.MOST << 1, 1);
        row(x, (Due.MOST << 1) - 1, 0);
        none(x, Due.MOST << 14);
        due.is("28: seven nights", x.rows(Due.MOST << 14, 7), 1);
        due.is("28: six aren't enough", x.rows(Due.MOST << 14, 6), 0);
        due.is("33: four times and less than twice, by turns", x.turned(2), (Due.MOST << 3) - 1 - 3);
        long[] lengths = new long[8];
        for (int i = 0; i < 8; i++) {
            lengths[i] = Due.MOST << 2 * (i + 1);
        }
        Due.tray(x, 0, lengths);
        due.is("29: however long it becomes", x.longBy(0), 1);
        due.is("30: by the last table", x.tables(0, 7), 4);
        due.is("32: and one more", x.attempt(0), 0);
        LetterNights still = Due.street("street tables 2 moon 0;rule 1 a : aa;");
        still.nights(60);
        row(still, 64, 1, 1, 1, 1, 1, 1);
        due.is("28: behind sixty nights", still.rows(128, 7), 1);
        due.is("33: behind sixty nights", still.turned(7), 16);
        due.is("36: behind sixty nights", still.mean(1, 0), 3);
        due.is("35: behind sixty nights", still.chance(12, 1), 1);
        Due.tray(still, 0, 2, 2, 2, 2, 2, 2, 2, 2);
        due.is("29: behind sixty nights", still.longBy(0), 1);
        due.is("31: of themselves none", still.moons(0), 0);
    }

    private static void rowsOfSoMany() {
        LetterNights x = Due.street("street tables 3 moon 0;");
        int all = 1;
        for (int k = 0; k <= 7; k++) {
            due.is("28: all of " + k, x.rows(1, k), all);
            due.is("28: none of " + k, x.rows(2, k), 0);
            due.is("28: none of " + k, x.rows(0, k), 0);
            due.is("28: far on", x.rows(Long.MAX_VALUE, k), 0);
            due.is("28: below 0", x.rows(-1, k), -3);
            all *= 3;
        }
        due.is("28: k is below 0", x.rows(1, -1), -3);
        due.is("28: k is above 7", x.rows(1, 8), -3);
        LetterNights y = Due.street(GROWING);
        // 2 * 3 * 4 in all their orders, and none else: of three nights.
        due.is("28: 24", y.rows(24, 3), 6);
        due.is("28: 16", y.rows(16, 3), 3);
        due.is("28: 16 of two", y.rows(16, 2), 1);
        due.is("28: 16 of four", y.rows(16, 4), 1);
        due.is("28: 2 to the 7th", y.rows(128, 7), 1);
        due.is("28: 4 to the 7th", y.rows(16384, 7), 1);
        due.is("28: 12 of four", y.rows(12, 4), 0);
        LetterNights gone = Due.street("street tables 2 moon 0;rule 1 a : nothing;");
        due.is("28: nothing, by all but one", gone.rows(0, 7), 127);
        due.is("28: no night, nothing", gone.rows(0, 0), 0);
    }

    private static void longs(LetterNights x, String what, long rows, long... lengths) {
        Due.tray(x, 0, lengths);
        due.is("29: " + what, x.longBy(0), rows);
    }

    private static void longOfSoMany() {
        LetterNights x = Due.street("street tables 3 moon 0;");
        longs(x, "no number", -4);
        long[] one = {1, 1, 1, 1, 1, 1, 1, 1};
        int all = 1;
        for (int n = 1; n <= 8; n++) {
            all *= 3;
            longs(x, "all of " + n, all, java.util.Arrays.copyOf(one, n));
            due.is("30: the first night", x.tables(0, 0), 7);
            due.is("30: the last night", x.tables(0, n - 1), 7);
            due.is("30: behind it", x.tables(0, n), -7);
            due.is("32: all are alike", x.attempt(0), 0);
        }
        longs(x, "nine numbers", -4, 1, 1, 1, 1, 1, 1, 1, 1, 1);
        LetterNights two = Due.street("street tables 2 moon 0;");
        longs(two, "two tables", 256, one);
        due.is("30: two tables", two.tables(0, 7), 3);
        longs(new LetterNights(), "one table", 1, one);
        longs(x, "the last one isn't so", 0, 1, 1, 1, 1, 1, 1, 1, 2);
        longs(x, "the first one isn't so", 0, 0, 1, 1, 1, 1, 1, 1, 1);
        longs(x, "far on", 0, Long.MAX_VALUE);
    }

    private static void longNotKnown() {
        LetterNights x = Due.street(GROWING);
        longs(x, "nothing is known", 6561, -1, -1, -1, -1, -1, -1, -1, -1);
        longs(x, "below NONE", -3, -1, -2);
        longs(x, "far below NONE", -3, Long.MIN_VALUE);
        longs(x, "0 is a length, not NONE", 0, 0, -1);
        longs(x, "the last one is known", 6, -1, -1, 24);
        longs(x, "the first one is known", 9, 2, -1, -1);
        longs(x, "the first and the last one", 2, 2, -1, 24);
        longs(x, "in between", 4, -1, 6, -1, 72);
        for (int sort = 0; sort < 4; sort++) {
            x.numbers(1, sort, 1);
            x.write(1, 0, -1);
            due.is("29: NONE of the sort " + sort, x.longBy(1), 3);
            x.write(1, 0, -2);
            due.is("29: below NONE, of the sort " + sort, x.longBy(1), -3);
            x.write(1, 0, 4);
            due.is("29: four, of the sort " + sort, x.longBy(1), 1);
        }
        x.numbers(1, 0, 1);
        x.write(1, 0, 256 + 4);
        due.is("29: 260 of 8 bits is four", x.longBy(1), 1);
    }

    private static void whichTables() {
        LetterNights x = Due.street(GROWING);
        longs(x, "2 * 3 or 3 * 2", 2, -1, 6);
        due.is("30: first or second table", x.tables(0, 0), 3);
        due.is("30: the other one", x.tables(0, 1), 3);
        due.is("30: there is no third night", x.tables(0, 2), -7);
        due.is("30: below 0", x.tables(0, -1), -3);
        longs(x, "2 * 4, 4 * 2 and a night more", 6, -1, 8, -1);
        due.is("30: first or third table", x.tables(0, 0), 5);
        due.is("30: whichever", x.tables(0, 2), 7);
        longs(x, "none", 0, -1, 7, -1);
        for (int i = 0; i < 3; i++) {
            due.is("30: by none", x.tables(0, i), 0);
        }
        due.is("30: by none, no such night", x.tables(0, 3), -7);
        due.is("32: by none", x.attempt(0), -1);
        // A way that begins well but ends badly doesn't count.
        LetterNights y = Due.street("street tables 2 moon 0;rule 0 a : b;rule 1 a : c;rule 0 c : cc;");
        longs(y, "b or c at first, c in the end", 1, 1, 2);
        due.is("30: c was by the second table", y.tables(0, 0), 2);
        due.is("30: cc was by the first table", y.tables(0, 1), 1);
    }

    private static void moonsOf(LetterNights x, String what, int bits, long... lengths) {
        Due.tray(x, 1, lengths);
        due.is("31: " + what, x.moons(1), bits);
    }

    private static void moonsThatCanBe() {
        LetterNights x = Due.street("street tables 3 moon 4;rule 1 a : aa;rule 2 a : nothing;picks : moon;sleeps : moon = 9 or moon = 5 and night = 1;");
        moonsOf(x, "all stays: 0, 3, 6, 9", 1 | 1 << 3 | 1 << 6 | 1 << 9, 1);
        moonsOf(x, "twice: 1, 4, 7", 1 << 1 | 1 << 4 | 1 << 7, 2);
        moonsOf(x, "nothing: 2, 5, 8", 1 << 2 | 1 << 5 | 1 << 8, 0);
        moonsOf(x, "no such length", 0, 3);
        moonsOf(x, "far on", 0, Long.MAX_VALUE);
        moonsOf(x, "eight numbers", 1 | 1 << 3 | 1 << 6 | 1 << 9, 1, 1, 1, 1, 1, 1, 1, 1);
        moonsOf(x, "eight numbers", 1 << 1 | 1 << 4 | 1 << 7, 2, 4, 8, 16, 32, 64, 128, 256);
        moonsOf(x, "the last of eight isn't so", 0, 2, 4, 8, 16, 32, 64, 128, 255);
        moonsOf(x, "nine numbers", -4, 1, 1, 1, 1, 1, 1, 1, 1, 1);
        moonsOf(x, "no number", -4);
        moonsOf(x, "NONE", -3, 1, -1);
        moonsOf(x, "NONE ahead", -3, -1, 1);
        due.is("42: the moon stays", x.told(1), 4);
        due.is("42: no night", x.told(2), 0);
        due.is("42: no call to be undone", x.told(7), 0);
        x.night(1);
        moonsOf(x, "by moon 5 all sleeps", 1 | 1 << 3 | 1 << 5 | 1 << 6 | 1 << 9, 1);
        LetterNights any = new LetterNights();
        moonsOf(any, "by all ten", 1023, 1);
    }

    private static void moonsAtTheMost() {
        LetterNights x = Due.street("street tables 1 moon 0;sleeps : moon > 7;");
        x.nights(59);
        moonsOf(x, "the sixtieth", 1023, 1);
        moonsOf(x, "no sixty-first, but sleeping", 1 << 8 | 1 << 9, 1, 1);
        x.nights(1);
        moonsOf(x, "none more", 1 << 8 | 1 << 9, 1);
        LetterNights y = Due.longStreet(Due.MOST / 2, "picks : moon;sleeps : moon = 9;");
        moonsOf(y, "to the most", 1 << 1 | 1 << 4 | 1 << 7, Due.MOST);
        moonsOf(y, "to the most and no further", 0, Due.MOST, 2 * Due.MOST);
        moonsOf(y, "no further", 1 << 2 | 1 << 5 | 1 << 8 | 1 << 9, Due.MOST / 2, Due.MOST / 2);
        LetterNights z = Due.longStreet(Due.MOST, "picks : moon;sleeps : moon = 9;");
        moonsOf(z, "above the most can't be", 0, 2 * Due.MOST);
        moonsOf(z, "above the most can't be", 1 << 2 | 1 << 5 | 1 << 8 | 1 << 9, Due.MOST);
    }

    private static void attempt(String rules, int table, long... lengths) {
        LetterNights x = Due.street("street tables 3 moon 0;" + rules);
        Due.tray(x, 0, lengths);
        due.is("32: " + rules, x.attempt(0), table);
    }

    private static void attempts() {
        // Behind the first night there is b, c or d.
        String three = "rule 0 a : b;rule 1 a : c;rule 2 a : d;";
        attempt(three, 0, 1);
        attempt(three + "rule 1 b : bb;", 1, 1);
        attempt(three + "rule 2 b : bb;", 2, 1);
        attempt(three + "rule 1 b : bb;rule 2 b : bb;", 1, 1);
        attempt(three + "rule 1 b : bb;rule 2 b : bb;rule 2 c : ccc;", 2, 1);
        attempt(three + "rule 0 b : bb;rule 2 b : bb;rule 2 c : ccc;rule 0 c : nothing;", 0, 1);
        attempt(three + "rule 0 b : bb;rule 0 c : cc;rule 0 d : dd;rule 1 b : nothing;", 1, 1);
        attempt(three, -1, 2);
        attempt(three, 0, -1, -1, -1, -1, -1, -1, -1, -1);
        // Only one row is left: the first table, whatever the others do.
        attempt("rule 0 a : aa;rule 1 a : nothing;", 0, 2);
        LetterNights one = new LetterNights();
        Due.tray(one, 0, 1);
        due.is("32: one table", one.attempt(0), 0);
        Due.tray(one, 0, 2);
        due.is("32: none", one.attempt(0), -1);
    }

    /** What a, b, .. become, by each table; all of them have many more lengths than rows of one length. */
    private static final String[][] SCATTERED = {
        {"c adbb bacc cd", "adaa dab c cacc", "dbda cac cda aaab"},
        {"abcc caab dd ab", "cbc adc cbbb aab", "acc aadd dcba -"},
        {"bc b accd ba", "abd bc cdcb ddcd", "dadc da db cab"},
        {"c bbaa abbc d", "b aaab bc d", "bbac aba cbbb d"},
        {"aa - c d", "aaa bb c d", "aaaa b c d"},
        {"a b c d", "a bb c d", "aa - c d"},
        {"ab b c d", "ac b c d", "a b c d"}
    };

    /** All rows of eight nights: they are counted one by one here. */
    private static void attemptsOfMany() {
        for (String[] tables : SCATTERED) {
            StringBuilder rules = new StringBuilder();
            for (int table = 0; table < 3; table++) {
                for (int letter = 0; letter < 4; letter++) {
                    String becomes = childOf(tables, table, letter);
                    rules.append("rule ").append(table).append(' ').append((char) ('a' + letter)).append(':');
                    rules.append(becomes.isEmpty() ? "nothing" : becomes).append(';');
                }
            }
            LetterNights x = Due.street("street tables 3 moon 0;" + rules);
            int[] best = new int[9];
            for (int nights = 1; nights <= 8; nights++) {
                best[nights] = bestOf(tables, nights);
            }
            // One behind the other: nothing of a call's counting stays for the next one.
            for (int nights : new int[] {8, 1, 8, 3, 7, 2, 6, 6, 1, 5, 4, 8}) {
                long[] unknown = new long[nights];
                java.util.Arrays.fill(unknown, -1);
                Due.tray(x, 0, unknown);
                due.is("32: behind " + nights + " nights, by " + rules, x.attempt(0), best[nights]);
            }
        }
    }

    private static String childOf(String[] tables, int table, int letter) {
        return tables[table].split(" ")[letter].replace("-", "");
    }

    private static int bestOf(String[] tables, int nights) {
        List<long[]> streets = new ArrayList<>();
        streets.add(new long[] {1, 0, 0, 0});
        for (int night = 0; night < nights; night++) {
            List<long[]> next = new ArrayList<>();
            for (long[] street : streets) {
                for (int table = 0; table < 3; table++) {
                    next.add(behind(tables, table, street));
                }
            }
            streets = next;
        }
        int[] greatest = new int[3];
        for (int table = 0; table < 3; table++) {
            Map<Long, Integer> many = new HashMap<>();
            for (long[] street : streets) {
                long[] then = behind(tables, table, street);
                many.merge(then[0] + then[1] + then[2] + then[3], 1, Integer::sum);
            }
            greatest[table] = Collections.max(many.values());
        }
        int least = Math.min(greatest[0], Math.min(greatest[1], greatest[2]));
        return greatest[0] == least ? 0 : greatest[1] == least ? 1 : 2;
    }

    private static long[] behind(String[] tables, int table, long[] street) {
        long[] then = new long[4];
        for (int letter = 0; letter < 4; letter++) {
            for (char child : childOf(tables, table, letter).toCharArray()) {
                then[child - 'a'] += street[letter];
            }
        }
        return then;
    }

    private static void turn(LetterNights x, int n, long length, int best) {
        due.is("33: " + n + " nights", x.turned(n), length);
        due.is("34: " + n + " nights", x.best(n), best);
    }

    private static void turns() {
        LetterNights x = Due.street(GROWING);
        long[] lengths = {1, 4, 8, 32, 64, 256, 512, 2048};
        for (int n = 0; n <= 7; n++) {
            turn(x, n, lengths[n], n == 0 ? -1 : 2);
        }
        due.is("33: below 0", x.turned(-1), -3);
        due.is("33: above 7", x.turned(8), -3);
        due.is("34: below 0", x.best(-1), -3);
        due.is("34: above 7", x.best(8), -3);
        LetterNights gone = Due.street("street tables 2 moon 0;rule 0 a : aaaa;rule 1 a : nothing;");
        turn(gone, 1, 4, 0);
        turn(gone, 2, 0, 0);
        gone.night(2);
        turn(gone, 0, 0, -1);
        turn(gone, 7, 0, 0);
        LetterNights most = Due.longStreet(Due.MOST, "rule 2 a : aaaa;rule 2 c : cccc;");
        turn(most, 0, Due.MOST, -1);
        turn(most, 1, Due.MOST << 2, 2);
    }

    private static void turnsOfLikeOnes() {
        turn(Due.street("street tables 3 moon 0;"), 7, 1, 0);
        turn(Due.street("street tables 3 moon 0;rule 1 a : aa;rule 2 a : aa;"), 7, 16, 1);
        turn(Due.street("street tables 3 moon 0;rule 2 a : aa;"), 7, 16, 2);
        turn(new LetterNights(), 7, 1, 0);
        // What is more at once is less in the end: the other one kills all a.
        LetterNights x = Due.street("street tables 3 moon 0;rule 0 a : aaaa;rule 2 a : bb;rule 1 a : nothing;");
        turn(x, 1, 4, 0);
        turn(x, 2, 2, 2);
        turn(x, 7, 2, 2);
        // The last night of an odd number is the first one's, of an even number the other one's.
        LetterNights y = Due.street("street tables 2 moon 0;stands ab;rule 0 a : aa;rule 1 b : nothing;");
        turn(y, 1, 3, 0);
        turn(y, 2, 2, 0);
        turn(y, 3, 4, 0);
        turn(y, 4, 4, 0);
    }

    /** Each of them is the first question, or the first one behind others of another street. */
    private static void askedAlone() {
        for (boolean behindOthers : new boolean[] {false, true}) {
            for (int question = 0; question < 11; question++) {
                LetterNights x = Due.street("street tables 3 moon 0;rule 1 a : nothing;rule 2 a : aaa;");
                Due.tray(x, 0, -1, 3, -1);
                if (behindOthers) {
                    askAll(x);
                }
                Texts.tell(x, "street tables 3 moon 0;stands ab;rule 0 a : nothing;rule 1 a : aa;rule 2 b : nothing;");
                // Behind a first night of length 1 there are b, b, nothing, nothing, aa, a.
                Due.tray(x, 0, 1, -1);
                long[] dueAnswers = {0, 2, 0, 2, 6, 5 + 7, 3, 1, 1, 5, 3};
                due.is("25 to 36: question " + question + " alone", ask(x, question), dueAnswers[question]);
            }
        }
    }

    private static void askAll(LetterNights x) {
        for (int question = 0; question < 11; question++) {
            ask(x, question);
        }
    }

    private static long ask(LetterNights x, int question) {
        switch (question) {
            case 0:
                return x.comes(0);
            case 1:
                return x.soonest(5);
            case 2:
                return x.way(0, 0);
            case 3:
                return x.rows(0, 2);
            case 4:
                return x.longBy(0);
            case 5:
                return x.tables(0, 1) + x.tables(0, 0);
            case 6:
                return x.turned(1);
            case 7:
                return x.best(3);
            case 8:
                return x.attempt(0);
            case 9:
                return x.mean(1, 0);
            default:
                return x.mean(1, 1);
        }
    }

    private static void chance(LetterNights x, int n, long above, long below) {
        due.is("35: " + n + " nights, above", x.chance(n, 0), above);
        due.is("35: " + n + " nights, below", x.chance(n, 1), below);
    }

    private static void chancesOfSoMany() {
        LetterNights x = Due.street("street tables 3 moon 0;rule 1 a : nothing;");
        int left = 1;
        int all = 1;
        for (int n = 0; n <= 12; n++) {
            chance(x, n, all - left, all == 1 ? 1 : all);
            left *= 2;
            all *= 3;
        }
        chance(x, -1, -3, -3);
        chance(x, 13, -3, -3);
        for (int what : new int[] {-1, 2}) {
            due.is("35: what " + what, x.chance(12, what), -2);
            due.is("35: what " + what + " ahead of n", x.chance(13, what), -2);
        }
        x.night(2);
        for (int n : new int[] {0, 1, 12}) {
            chance(x, n, 1, 1);
        }
        LetterNights never = Due.street("street tables 3 moon 0;");
        for (int n : new int[] {0, 1, 12}) {
            chance(never, n, 0, 1);
        }
        LetterNights sure = Due.street("street tables 3 moon 0;rule 0 a : nothing;rule 1 a : nothing;rule 2 a : nothing;");
        chance(sure, 0, 0, 1);
        chance(sure, 1, 1, 1);
        chance(sure, 12, 1, 1);
    }

    private static void chancesInLowestTerms() {
        LetterNights x = Due.street("street tables 2 moon 0;stands ab;rule 0 a : nothing;rule 1 b : nothing;");
        chance(x, 1, 0, 1);
        chance(x, 2, 1, 2);
        chance(x, 3, 3, 4);
        chance(x, 12, 2047, 2048);
        // Two of three tables, and both of two at once.
        chance(Due.street("street tables 3 moon 0;rule 0 a : nothing;rule 2 a : nothing;"), 1, 2, 3);
        chance(Due.street("street tables 2 moon 0;rule 1 a : nothing;"), 12, 4095, 4096);
        LetterNights six = Due.street("street tables 3 moon 0;stands abc;rule 0 a : nothing;rule 1 b : nothing;rule 2 c : nothing;");
        chance(six, 2, 0, 1);
        chance(six, 3, 2, 9);
        chance(six, 4, 4, 9);
        // Letters that become others first: it takes six nights at least.
        LetterNights late = Due.street("street tables 2 moon 0;rule 0 a : bb;rule 0 b : c;rule 0 c : dddd;rule 0 d : e;rule 0 e : f;rule 0 f : nothing;");
        chance(late, 5, 0, 1);
        chance(late, 6, 1, 64);
        chance(late, 7, 1, 16);
        LetterNights still = Due.street("street tables 1 moon 0;rule 0 a : nothing;sleeps : 1 = 1;");
        chance(still, 1, 1, 1);
    }

    private static void mean(LetterNights x, int n, long above, long below) {
        due.is("36: " + n + " nights, above", x.mean(n, 0), above);
        due.is("36: " + n + " nights, below", x.mean(n, 1), below);
    }

    private static void means() {
        LetterNights x = Due.street("street tables 3 moon 0;rule 0 a : aa;");
        long above = 1;
        long below = 1;
        for (int n = 0; n <= 6; n++) {
            mean(x, n, above, below);
            above *= 4;
            below *= 3;
        }
        mean(x, -1, -3, -3);
        mean(x, 7, -3, -3);
        for (int what : new int[] {-1, 2}) {
            due.is("36: what " + what, x.mean(6, what), -2);
            due.is("36: what " + what + " ahead of n", x.mean(7, what), -2);
        }
        LetterNights gone = Due.street("street tables 2 moon 0;rule 0 a : nothing;");
        mean(gone, 0, 1, 1);
        mean(gone, 1, 1, 2);
        mean(gone, 6, 1, 64);
        gone.night(1);
        mean(gone, 0, 0, 1);
        mean(gone, 6, 0, 1);
        LetterNights whole = Due.street("street tables 3 moon 0;rule 0 a : aa;rule 1 a : nothing;");
        mean(whole, 6, 1, 1);
        LetterNights halves = Due.street("street tables 2 moon 0;stands aab;rule 0 a : nothing;rule 1 b : bbb;");
        mean(halves, 1, 3, 1);
        mean(halves, 2, 9, 2);
    }

    private static void meansOfTheMost() {
        LetterNights x = Due.street("street tables 3 moon 0;stands aaa;rule 0 a : aaaa;rule 1 a : aaaa;rule 2 a : aaaa;");
        x.nights(19);
        mean(x, 6, 3L << 50, 1);
        LetterNights y = Due.longStreet(Due.MOST, "rule 2 a : aaaa;rule 2 c : cccc;");
        BigInteger[] most = meanOfCAndA(y.length(), 6);
        mean(y, 6, most[0].longValueExact(), most[1].longValueExact());
        mean(y, 1, 8 * Due.MOST - 1, 3);
        mean(y, 0, Due.MOST, 1);
    }

    /** The mean of what becomes of one c and of a behind it: by table 0 c is c, by table 1 ca, by table 2 cccc. */
    private static BigInteger[] meanOfCAndA(long length, int nights) {
        BigInteger all = BigInteger.valueOf(length);
        BigInteger c = BigInteger.ONE;
        for (int i = 0; i < nights; i++) {
            // Sums over all rows: an a becomes eight a, a c becomes one a and six c.
            BigInteger a = all.subtract(c);
            all = a.multiply(BigInteger.valueOf(8)).add(c.multiply(BigInteger.valueOf(7)));
            c = c.multiply(BigInteger.valueOf(6));
        }
        BigInteger below = BigInteger.valueOf(3).pow(nights);
        BigInteger by = all.gcd(below);
        return new BigInteger[] {all.divide(by), below.divide(by)};
    }
}
