/** Each refused call of promises 2 to 41: its code, the one told first of several, and that nothing has changed. */
public final class RefusalTest {
    private static final Due due = new Due();
    private static final int LOW = Integer.MIN_VALUE;
    private static final int HIGH = Integer.MAX_VALUE;
    private static final int[] BELOW_AND_ABOVE_TRAYS = {-1, 4, LOW, HIGH};
    private static final int[] NO_TABLES = {-1, 2, LOW, HIGH};
    private static final int[] NO_LETTERS = {-1, 6, LOW, HIGH};

    private static final Twins town = new Twins(due, RefusalTest::town);

    public static void main(String[] args) {
        theTape();
        theStreet();
        deeds();
        deedsAtTheirMost();
        words();
        fates();
        rows();
        lengths();
        turnsAndChances();
        trays();
        images();
        asking();
        due.close("RefusalTest");
    }

    /**
     * All that can stay or not is there: nights, a sleeping one too, moons, calls to be undone, one
     * image, three trays, a fault, a tape.
     */
    private static LetterNights town() {
        LetterNights x = new LetterNights();
        Texts.tell(x, "street tables 3 moon 8; stands fade; rule 2 f : nothing; rule 1 a : dd;");
        x.night(2);
        x.moon(1);
        x.image(0);
        Texts.tell(x, "street tables 2 moon 3; stands abc; rule 0 a : ab; rule 0 c : nothing; rule 1 b : ca;"
                + "picks : night + moon; sleeps : moon = 7;");
        x.nights(2);
        x.moon(7);
        x.night(0);
        x.moon(4);
        trayOf(x, 0, 0, 0, 1);
        trayOf(x, 1, 1, 0, 12, 2, 1);
        trayOf(x, 2, 2, 9, -1);
        Texts.tell(x, "street tables 2 moon 3; rule 2");
        feed(x, "street tables 1 moon 5;stands ee;");
        return x;
    }

    private static void trayOf(LetterNights x, int tray, int sort, long... values) {
        x.numbers(tray, sort, values.length);
        for (int i = 0; i < values.length; i++) {
            x.write(tray, i, values[i]);
        }
    }

    private static void feed(LetterNights x, String text) {
        for (int from = 0; from < text.length(); from += 20) {
            int[] f = Texts.fed(text, from);
            x.feed(f[0], f[1], f[2], f[3], f[4]);
        }
    }

    /** The town with other numbers in tray 2. */
    private static Twins townWithTray(long... values) {
        return new Twins(due, () -> {
            LetterNights x = town();
            trayOf(x, 2, 3, values);
            return x;
        });
    }

    private static void theTape() {
        Twins full = new Twins(due, () -> {
            LetterNights x = town();
            StringBuilder b = new StringBuilder("street tables 1 moon 5;stands ee;        picks : 0;");
            while (b.length() < 860) {
                b.append(' ');
            }
            feed(x, b.substring(40));
            while (x.told(8) < 900) {
                feed(x, "stands eee;         ");
            }
            return x;
        });
        full.stay("2: the tape is full", x -> x.feed(0, 0, 0, 0, 0), -5);
        town.stay("3: n is below 0", x -> x.street(-1), -3);
        town.stay("3: n is far below 0", x -> x.street(LOW), -3);
        town.stay("3: n is above what there is", x -> x.street(41), -3);
        town.stay("3: n is far above what there is", x -> x.street(HIGH), -3);
        new Twins(due, LetterNights::new).stay("3: n is above the empty tape", x -> x.street(1), -3);
        // A fault is told by fault(), and the tape is empty: only the rest stays.
        new Twins(due, () -> {
            LetterNights x = town();
            x.street(23 + 6);
            return x;
        }).stay("3: with a fault all else stays", x -> {
            feed(x, "street tables 1 moon 5;stands ");
            return x.street(23 + 6);
        }, -32);
    }

    private static void theStreet() {
        for (int table : NO_TABLES) {
            town.stay("5: no table " + table, x -> x.becomes(table, 0, 0), -2);
            town.stay("5: no table " + table + " ahead of i", x -> x.becomes(table, 0, -2), -2);
        }
        for (int letter : NO_LETTERS) {
            town.stay("5: no letter " + letter, x -> x.becomes(0, letter, 0), -2);
            town.stay("5: no letter " + letter + " ahead of i", x -> x.becomes(0, letter, LOW), -2);
            town.stay("9: no letter " + letter, x -> x.count(letter, 0), -2);
            town.stay("9: no letter " + letter + " ahead of the place", x -> x.count(letter, -1), -2);
            town.stay("10: no letter " + letter, x -> x.place(letter, 1), -2);
            town.stay("10: no letter " + letter + " ahead of k", x -> x.place(letter, 0), -2);
        }
        town.stay("5: i is below NONE", x -> x.becomes(0, 0, -2), -3);
        town.stay("5: i is far below NONE", x -> x.becomes(0, 0, LOW), -3);
        town.stay("8: below 0", x -> x.letter(-1), -3);
        town.stay("8: far below 0", x -> x.letter(Long.MIN_VALUE), -3);
        town.stay("9: below 0", x -> x.count(0, -1), -3);
        town.stay("9: far below 0", x -> x.count(0, Long.MIN_VALUE), -3);
        town.stay("9: behind the length", x -> x.count(0, x.length() + 1), -3);
        town.stay("9: far behind the length", x -> x.count(0, Long.MAX_VALUE), -3);
        town.stay("10: k is 0", x -> x.place(0, 0), -3);
        town.stay("10: k is below 0", x -> x.place(5, -1), -3);
        town.stay("10: k is far below 0", x -> x.place(5, Long.MIN_VALUE), -3);
    }

    private static void deeds() {
        for (int deed : new int[] {-1, 3, 4, 9, 10, 12, 19, 20, LOW, HIGH}) {
            town.stay("11: no night by the deed " + deed, x -> x.night(deed), -11);
        }
        for (int n : new int[] {0, -1, 61, LOW, HIGH}) {
            town.stay("12: not " + n + " nights", x -> x.nights(n), -3);
        }
        for (int n : new int[] {-1, 10, LOW, HIGH}) {
            town.stay("13: no moon " + n, x -> x.moon(n), -11);
        }
        for (int n : new int[] {0, -1, 5, 10, 11, LOW, HIGH}) {
            town.stay("14: not " + n + " calls", x -> x.undo(n), -3);
        }
        for (int tray : BELOW_AND_ABOVE_TRAYS) {
            town.stay("15: no tray " + tray, x -> x.judge(tray, 0), -2);
            town.stay("15: no tray " + tray + ", nor what", x -> x.judge(tray, 4), -2);
            town.stay("16: no tray " + tray, x -> x.perform(tray), -2);
        }
        for (int what : new int[] {-1, 4, LOW, HIGH}) {
            town.stay("15: no what " + what, x -> x.judge(1, what), -2);
            town.stay("15: no what " + what + " ahead of a missing tray", x -> x.judge(3, what), -2);
        }
        for (int what = 0; what < 4; what++) {
            int asked = what;
            town.stay("15: the tray is missing", x -> x.judge(3, asked), -6);
        }
        town.stay("16: the tray is missing", x -> x.perform(3), -6);
        for (int times : new int[] {0, -1, 21, LOW, HIGH}) {
            town.stay("17: not " + times + " times", x -> x.year(1, times), -3);
        }
        townWithTray().stay("16: no deed", x -> x.perform(2), 0);
        townWithTray(3, 1).stay("16: the first one can't be", x -> x.perform(2), 0);
    }

    private static void deedsAtTheirMost() {
        Twins sixty = new Twins(due, () -> {
            LetterNights x = Due.street("street tables 2 moon 3;rule 1 a : aa;");
            x.night(2);
            x.image(0);
            x.nights(59);
            Due.tray(x, 0, 0, 1);
            return x;
        });
        sixty.stay("11: there were 60, of itself", x -> x.night(0), -12);
        sixty.stay("11: there were 60, by a table", x -> x.night(2), -12);
        sixty.stay("11: no such table ahead of 60", x -> x.night(3), -11);
        sixty.stay("12: there were 60", x -> x.nights(60), 0);
        sixty.stay("16: there were 60", x -> x.perform(0), 0);
        sixty.stay("17: there were 60, the draw is 0", x -> x.year(0, 1), 0);
        Twins longest = new Twins(due, () -> {
            LetterNights x = Due.longStreet(Due.MOST, "rule 2 c : ca;");
            x.image(0);
            x.moon(4);
            Due.tray(x, 0, 3, 0);
            return x;
        });
        longest.stay("11: too long, of itself", x -> x.night(0), -13);
        longest.stay("11: too long by one, by a table", x -> x.night(3), -13);
        longest.stay("11: no such deed ahead of too long", x -> x.night(4), -11);
        longest.stay("12: too long", x -> x.nights(1), 0);
        longest.stay("16: too long", x -> x.perform(0), 0);
        longest.stay("17: too long, the draw is 0", x -> x.year(0, 1), 0);
    }

    private static void wordRefused(Twins of, String what, int tray, long code) {
        of.stay("18: " + what, x -> x.occurs(tray), code);
        of.stay("19: " + what, x -> x.first(tray), code);
        of.stay("20: " + what, x -> x.backs(tray, 0), code);
        of.stay("21: " + what, x -> x.backBy(tray, 0, 0), code);
        of.stay("21: " + what + " ahead of i", x -> x.backBy(tray, 0, -1), code);
        of.stay("20: no table ahead of " + what, x -> x.backs(tray, 2), -2);
        of.stay("21: no table ahead of " + what, x -> x.backBy(tray, -1, 0), -2);
    }

    private static void words() {
        for (int tray : BELOW_AND_ABOVE_TRAYS) {
            wordRefused(town, "no tray " + tray, tray, -2);
        }
        wordRefused(town, "missing", 3, -6);
        wordRefused(townWithTray(), "no number", 2, -4);
        wordRefused(townWithTray(0, 1, 2, 3, 4, 5, 0), "seven numbers", 2, -4);
        wordRefused(townWithTray(0, 0, 0, 0, 0, 0, 6), "seven numbers ahead of no letter", 2, -4);
        wordRefused(townWithTray(0, 0, 0, 0, 0, 6), "the last one is no letter", 2, -3);
        wordRefused(townWithTray(-1), "the only one is no letter", 2, -3);
        wordRefused(townWithTray(0, 1L << 32), "one of 2 to the 32nd", 2, -3);
        for (int table : NO_TABLES) {
            town.stay("20: no table " + table, x -> x.backs(0, table), -2);
            town.stay("21: no table " + table, x -> x.backBy(0, table, 0), -2);
        }
        town.stay("21: i is below 0", x -> x.backBy(0, 0, -1), -3);
        town.stay("21: i is far below 0", x -> x.backBy(0, 0, LOW), -3);
        townWithTray(5, 4).stay("21: i is below 0 ahead of none", x -> x.backBy(2, 1, -1), -3);
    }

    private static void fates() {
        for (int table : NO_TABLES) {
            town.stay("22: no table " + table, x -> x.fate(table, 0), -2);
            town.stay("23: no table " + table, x -> x.degree(table, 0), -2);
            town.stay("24: no table " + table, x -> x.begins(table), -2);
        }
        for (int letter : NO_LETTERS) {
            town.stay("22: no letter " + letter, x -> x.fate(0, letter), -2);
            town.stay("23: no letter " + letter, x -> x.degree(0, letter), -2);
            town.stay("25: no letter " + letter, x -> x.comes(letter), -2);
        }
    }

    private static void rows() {
        for (long n : new long[] {-1, Long.MIN_VALUE}) {
            town.stay("26: n is " + n, x -> x.soonest(n), -3);
            town.stay("27: n is " + n, x -> x.way(n, 0), -3);
            town.stay("28: n is " + n, x -> x.rows(n, 0), -3);
        }
        town.stay("27: i is below 0", x -> x.way(x.length(), -1), -3);
        town.stay("27: i is far below 0, of a length that none has", x -> x.way(Long.MAX_VALUE, LOW), -3);
        for (int k : new int[] {-1, 8, LOW, HIGH}) {
            town.stay("28: k is " + k, x -> x.rows(1, k), -3);
        }
    }

    private static void lengthsRefused(Twins of, String what, int tray, long code) {
        of.stay("29: " + what, x -> x.longBy(tray), code);
        of.stay("30: " + what, x -> x.tables(tray, 0), code);
        of.stay("30: " + what + " ahead of i below 0", x -> x.tables(tray, -1), code);
        of.stay("30: " + what + " ahead of no such night", x -> x.tables(tray, 40), code);
        of.stay("31: " + what, x -> x.moons(tray), code);
        of.stay("32: " + what, x -> x.attempt(tray), code);
    }

    private static void lengths() {
        for (int tray : BELOW_AND_ABOVE_TRAYS) {
            lengthsRefused(town, "no tray " + tray, tray, -2);
        }
        lengthsRefused(town, "missing", 3, -6);
        lengthsRefused(townWithTray(), "no number", 2, -4);
        lengthsRefused(townWithTray(1, 1, 1, 1, 1, 1, 1, 1, 1), "nine numbers", 2, -4);
        lengthsRefused(townWithTray(1, 1, 1, 1, 1, 1, 1, 1, -2), "nine numbers ahead of one below NONE", 2, -4);
        lengthsRefused(townWithTray(-2), "the only one is below NONE", 2, -3);
        lengthsRefused(townWithTray(1, 1, 1, 1, 1, 1, 1, -2), "the last one is below NONE", 2, -3);
        lengthsRefused(townWithTray(Long.MIN_VALUE, 1), "the first one is far below NONE", 2, -3);
        townWithTray(1, -1).stay("31: NONE is below 0", x -> x.moons(2), -3);
        town.stay("30: i is below 0", x -> x.tables(2, -1), -3);
        town.stay("30: i is far below 0", x -> x.tables(2, LOW), -3);
        town.stay("30: no such night", x -> x.tables(2, 2), -7);
        town.stay("30: no such night, far on", x -> x.tables(2, HIGH), -7);
        townWithTray(0).stay("30: no such night of no row", x -> x.tables(2, 1), -7);
    }

    private static void turnsAndChances() {
        for (int n : new int[] {-1, 8, LOW, HIGH}) {
            town.stay("33: n is " + n, x -> x.turned(n), -3);
            town.stay("34: n is " + n, x -> x.best(n), -3);
        }
        for (int what : new int[] {-1, 2, LOW, HIGH}) {
            town.stay("35: no what " + what, x -> x.chance(1, what), -2);
            town.stay("35: no what " + what + " ahead of n", x -> x.chance(13, what), -2);
            town.stay("36: no what " + what, x -> x.mean(1, what), -2);
            town.stay("36: no what " + what + " ahead of n", x -> x.mean(-1, what), -2);
        }
        for (int n : new int[] {-1, 13, LOW, HIGH}) {
            town.stay("35: n is " + n, x -> x.chance(n, 0), -3);
            town.stay("35: n is " + n, x -> x.chance(n, 1), -3);
        }
        for (int n : new int[] {-1, 7, LOW, HIGH}) {
            town.stay("36: n is " + n, x -> x.mean(n, 0), -3);
            town.stay("36: n is " + n, x -> x.mean(n, 1), -3);
        }
    }

    private static void trays() {
        for (int tray : BELOW_AND_ABOVE_TRAYS) {
            town.stay("37: no tray " + tray, x -> x.numbers(tray, 0, 1), -2);
            town.stay("37: no tray " + tray + " ahead of n", x -> x.numbers(tray, 0, 41), -2);
            town.stay("38: no tray " + tray, x -> x.write(tray, 0, 1), -2);
            town.stay("39: no tray " + tray, x -> x.lists(tray, 0), -2);
            town.stay("39: no tray " + tray + " ahead of the place", x -> x.lists(tray, -1), -2);
        }
        for (int sort : new int[] {-1, 4, LOW, HIGH}) {
            town.stay("37: no sort " + sort, x -> x.numbers(0, sort, 1), -2);
            town.stay("37: no sort " + sort + " ahead of n", x -> x.numbers(0, sort, -1), -2);
        }
        for (int n : new int[] {-1, 41, LOW, HIGH}) {
            town.stay("37: n is " + n, x -> x.numbers(0, 0, n), -3);
            town.stay("37: n is " + n + ", of a missing tray", x -> x.numbers(3, 3, n), -3);
        }
        town.stay("38: missing", x -> x.write(3, 0, 1), -6);
        town.stay("38: missing ahead of i", x -> x.write(3, -1, 1), -6);
        for (int i : new int[] {-1, 2, 40, LOW, HIGH}) {
            town.stay("38: no number " + i, x -> x.write(0, i, 1), -7);
        }
        townWithTray().stay("38: no number 0 of none", x -> x.write(2, 0, 1), -7);
        town.stay("39: missing", x -> x.lists(3, 0), -6);
        town.stay("39: missing ahead of the place", x -> x.lists(3, -1), -6);
        town.stay("39: below 0", x -> x.lists(0, -1), -3);
        town.stay("39: far below 0", x -> x.lists(0, Long.MIN_VALUE), -3);
        town.stay("39: behind the length", x -> x.lists(0, x.length() + 1), -3);
        town.stay("39: far behind the length", x -> x.lists(0, Long.MAX_VALUE), -3);
        town.stay("39: at the length nothing comes in", x -> x.lists(0, x.length()), 0);
        townWithTray().stay("39: nothing comes into no place", x -> x.lists(2, 0), 0);
    }

    private static void images() {
        for (int i : new int[] {-1, 2, LOW, HIGH}) {
            town.stay("40: no image " + i, x -> x.image(i), -2);
            town.stay("41: no image " + i, x -> x.restore(i), -2);
        }
        town.stay("41: none was made", x -> x.restore(1), -5);
    }

    /** Calls that only ask, and those that tell NONE, leave all as it was, too. */
    private static void asking() {
        LetterNights same = town();
        Twins.Call[] asked = {
            x -> x.fault(1), x -> x.fault(2), x -> x.becomes(0, 0, 4), x -> x.picks(), x -> x.length(),
            x -> x.letter(x.length()), x -> x.count(0, x.length()), x -> x.place(0, 1000), x -> x.place(1, 1),
            x -> x.judge(1, 0), x -> x.judge(1, 1), x -> x.judge(1, 2), x -> x.judge(1, 3), x -> x.occurs(0),
            x -> x.first(0), x -> x.backs(0, 0), x -> x.backBy(0, 0, 0), x -> x.fate(0, 0), x -> x.degree(0, 0),
            x -> x.begins(0), x -> x.comes(5), x -> x.soonest(20), x -> x.way(20, 1), x -> x.rows(20, 7),
            x -> x.longBy(2), x -> x.tables(2, 0), x -> x.attempt(2), x -> x.turned(7), x -> x.best(7),
            x -> x.chance(12, 0), x -> x.mean(6, 0), x -> x.told(6)
        };
        for (int i = 0; i < asked.length; i++) {
            town.stay("1: the asking call " + i, asked[i], asked[i].on(same));
        }
        Twins moons = townWithTray(4, 4, 4);
        moons.stay("31: moons that are tried", x -> x.moons(2), 1 << 7);
    }
}
