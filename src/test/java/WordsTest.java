/** Promises 18 to 24: words, reading back, fates. */
public final class WordsTest {
    private static final Due due = new Due();

    public static void main(String[] args) {
        words();
        wordsFarOn();
        refusedWords();
        readingBack();
        fates();
        begins();
        due.close("WordsTest");
    }

    private static void word(LetterNights x, String what, long often, long first, long... word) {
        Due.tray(x, 0, word);
        due.is("18: " + what, x.occurs(0), often);
        due.is("19: " + what, x.first(0), first);
    }

    private static void words() {
        LetterNights x = Due.street("street tables 1 moon 0;stands aabaabaaabab;");
        word(x, "a", 8, 0, 0);
        word(x, "b", 4, 2, 1);
        word(x, "c", 0, -1, 2);
        word(x, "aa", 4, 0, 0, 0);
        word(x, "aab", 3, 0, 0, 0, 1);
        word(x, "aabaa, one upon the other", 2, 0, 0, 0, 1, 0, 0);
        word(x, "aaa", 1, 6, 0, 0, 0);
        word(x, "abab", 1, 8, 0, 1, 0, 1);
        word(x, "abaaba", 1, 1, 0, 1, 0, 0, 1, 0);
        word(x, "bb", 0, -1, 1, 1);
        LetterNights y = Due.street("street tables 2 moon 0;stands ab;rule 0 a : aaaa;rule 0 b : aaaa;rule 1 a : nothing;");
        y.night(1);
        word(y, "aaa in aaaaaaaa", 6, 0, 0, 0, 0);
        word(y, "aaaaaa in aaaaaaaa", 3, 0, 0, 0, 0, 0, 0, 0);
        y.night(2);
        word(y, "nothing", 0, -1, 0);
    }

    private static void wordsFarOn() {
        // a grows to the left of c; between two b there are so many c.
        LetterNights x = Due.street("street tables 2 moon 0;stands ad;rule 0 a : aabc;rule 0 d : bdb;rule 1 d : e;");
        x.nights(30);
        long all = x.length();
        due.is("18: length", all, (1L << 30) + 2 * ((1L << 30) - 1) + 61);
        word(x, "a", 1L << 30, 0, 0);
        word(x, "bc", (1L << 30) - 1, (1L << 0) + 1, 1, 2);
        word(x, "d", 1, all - 31, 3);
        word(x, "bdb", 1, all - 32, 1, 3, 1);
        word(x, "bbbbbb", 50, all - 61, 1, 1, 1, 1, 1, 1);
        word(x, "cbbbbb", 1, all - 62, 2, 1, 1, 1, 1, 1);
        word(x, "e", 0, -1, 4);
        long pairs = 0;
        for (int p = 0; p < 6; p++) {
            for (int q = 0; q < 6; q++) {
                Due.tray(x, 0, p, q);
                pairs += x.occurs(0);
            }
        }
        due.is("18: all pairs", pairs, all - 1);
        x.night(2);
        word(x, "beb", 1, all - 32, 1, 4, 1);
    }

    private static void refusedWords() {
        LetterNights x = new LetterNights();
        due.is("18: missing", x.occurs(0), -6);
        due.is("18: no such tray", x.occurs(4), -2);
        due.is("18: no such tray", x.occurs(-1), -2);
        due.is("19: missing", x.first(0), -6);
        due.is("19: no such tray", x.first(4), -2);
        due.is("20: missing", x.backs(0, 0), -6);
        due.is("20: no such table", x.backs(0, 1), -2);
        due.is("20: no such table", x.backs(0, -1), -2);
        due.is("20: no such tray", x.backs(-1, 0), -2);
        due.is("21: missing", x.backBy(0, 0, -1), -6);
        for (long[] many : new long[][] {{}, {0, 0, 0, 0, 0, 0, 9}}) {
            Due.tray(x, 0, many);
            due.is("18: so many", x.occurs(0), -4);
            due.is("19: so many", x.first(0), -4);
            due.is("20: so many", x.backs(0, 0), -4);
            due.is("20: no such table ahead", x.backs(0, 1), -2);
            due.is("21: so many", x.backBy(0, 0, -1), -4);
        }
        for (long bad : new long[] {-1, 6, 256, 1L << 32}) {
            Due.tray(x, 0, 0, bad);
            due.is("18: no letter " + bad, x.occurs(0), -3);
            due.is("19: no letter " + bad, x.first(0), -3);
            due.is("20: no letter " + bad, x.backs(0, 0), -3);
            due.is("21: no letter " + bad, x.backBy(0, 0, 0), -3);
        }
    }

    private static void readingBack() {
        LetterNights x = Due.street("street tables 2 moon 0;rule 0 a : ab;rule 0 b : a;rule 0 c : b;rule 0 d : nothing;rule 0 e : abab;rule 0 f : nothing;"
                + "rule 1 a : bb;rule 1 b : bb;rule 1 c : bb;rule 1 d : bb;rule 1 e : bb;rule 1 f : bb;");
        Due.tray(x, 0, 0, 1, 0, 1);
        // ab is a or bc, and abab is e too.
        due.is("20: abab", x.backs(0, 0), 5);
        int[] least = {0, 0, -1, -1};
        for (int i = 0; i < 4; i++) {
            due.is("21: aa " + i, x.backBy(0, 0, i), least[i]);
        }
        Due.tray(x, 0, 0, 1, 1, 0, 0);
        due.is("20: abbaa", x.backs(0, 0), 2);
        int[] acbb = {0, 2, 1, 1, -1};
        for (int i = 0; i < 5; i++) {
            due.is("21: acbb " + i, x.backBy(0, 0, i), acbb[i]);
        }
        due.is("21: below 0", x.backBy(0, 0, -1), -3);
        due.is("21: far on", x.backBy(0, 0, Integer.MAX_VALUE), -1);
        Due.tray(x, 0, 0, 2);
        due.is("20: no c", x.backs(0, 0), 0);
        due.is("21: none", x.backBy(0, 0, 0), -1);
        due.is("21: none, but below 0", x.backBy(0, 0, -1), -3);
        Due.tray(x, 0, 1, 1, 1, 1, 1, 1);
        due.is("20: six letters each", x.backs(0, 1), 216);
        due.is("21: aaa", x.backBy(0, 1, 2), 0);
        due.is("21: aaa", x.backBy(0, 1, 3), -1);
        Due.tray(x, 0, 1, 1, 1);
        due.is("20: an odd one", x.backs(0, 1), 0);
        LetterNights all = Due.street("street tables 1 moon 0;rule 0 b : a;rule 0 c : a;rule 0 d : a;rule 0 e : a;rule 0 f : a;");
        Due.tray(all, 0, 0, 0, 0, 0, 0, 0);
        due.is("20: 6 to the 6th", all.backs(0, 0), 46656);
        LetterNights dead = Due.street("street tables 1 moon 0;rule 0 a : bb;rule 0 b : bbb;rule 0 c : nothing;rule 0 d : b;");
        Due.tray(dead, 0, 1, 1, 1);
        due.is("20: b, ad, da, ddd", dead.backs(0, 0), 4);
        due.is("21: ad", dead.backBy(0, 0, 0), 0);
        due.is("21: ad", dead.backBy(0, 0, 1), 3);
        due.is("21: ad", dead.backBy(0, 0, 2), -1);
    }

    private static void fate(String rules, String fates, String degrees) {
        LetterNights x = Due.street("street tables 2 moon 0;" + rules);
        for (int letter = 0; letter < fates.length(); letter++) {
            due.is("22: letter " + letter + " of " + rules, x.fate(0, letter), fates.charAt(letter) - '0');
            char degree = degrees.charAt(letter);
            due.is("23: letter " + letter + " of " + rules, x.degree(0, letter), degree == '-' ? -1 : degree - '0');
            due.is("22: the other table", x.fate(1, letter), 1);
        }
    }

    private static void fates() {
        fate("", "111111", "------");
        fate("rule 0 a : b;rule 0 b : c;rule 0 c : nothing;", "000111", "------");
        fate("rule 0 a : aa;rule 0 b : a;rule 0 c : bd;rule 0 d : ef;rule 0 e : d;", "333221", "---11-");
        fate("rule 0 a : ab;rule 0 b : bc;rule 0 c : cd;rule 0 d : de;rule 0 e : ef;", "222221", "54321-");
        fate("rule 0 a : b;rule 0 b : a;", "111111", "------");
        fate("rule 0 a : bc;rule 0 b : a;rule 0 c : nothing;", "110111", "------");
        fate("rule 0 a : bc;rule 0 b : a;rule 0 c : d;", "221111", "11----");
        fate("rule 0 a : bc;rule 0 b : a;rule 0 c : a;", "333111", "------");
        fate("rule 0 a : bcde;rule 0 f : ff;rule 0 e : f;", "311133", "------");
        fate("rule 0 a : bcd;rule 0 b : bc;rule 0 c : nothing;rule 0 d : dd;", "310311", "------");
        fate("rule 0 a : bbbb;", "111111", "------");
        fate("rule 0 a : b;rule 0 b : cc;rule 0 c : cd;rule 0 d : e;rule 0 e : d;", "222111", "111---");
        fate("rule 0 b : ba;rule 0 c : bc;rule 0 d : dc;rule 0 e : de;rule 0 f : fe;", "122222", "-12345");
        fate("rule 0 a : c;rule 0 b : a;rule 0 c : bd;", "222111", "111---");
        fate("rule 0 f : e;rule 0 e : d;rule 0 d : c;rule 0 c : b;rule 0 b : a;rule 0 a : nothing;", "000000", "------");
        fate("rule 0 f : e;rule 0 e : d;rule 0 d : c;rule 0 c : b;rule 0 b : a;rule 0 a : ff;", "333333", "------");
        LetterNights x = new LetterNights();
        due.is("22: no table", x.fate(1, 0), -2);
        due.is("22: no table", x.fate(-1, 0), -2);
        due.is("22: no letter", x.fate(0, 6), -2);
        due.is("22: no letter", x.fate(0, -1), -2);
        due.is("23: no table", x.degree(1, 0), -2);
        due.is("23: no letter", x.degree(0, 6), -2);
    }

    private static void begins() {
        LetterNights x = Due.street("street tables 2 moon 0;rule 0 a : ab;rule 0 b : ab;rule 0 c : ccc;rule 0 d : nothing;rule 0 e : ae;rule 1 f : fa;");
        due.is("24: a and c", x.begins(0), 5);
        due.is("24: f", x.begins(1), 32);
        due.is("24: no table", x.begins(2), -2);
        due.is("24: no table", x.begins(-1), -2);
        due.is("24: none", new LetterNights().begins(0), 0);
    }
}
