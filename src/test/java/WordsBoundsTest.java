import java.util.ArrayList;
import java.util.List;

/** The edges of places and words (promises 5, 8 to 10, 18 to 21, 39), and of fates (22 to 24). */
public final class WordsBoundsTest {
    private static final Due due = new Due();

    public static void main(String[] args) {
        placesOfFew();
        placesOfNone();
        placesOfMany();
        kthOnes();
        placesBehindSixtyNights();
        askedAlone();
        longestAndShortestWords();
        lettersOfWords();
        wordsOnTheEdge();
        oneUponTheOther();
        wordsAcrossNights();
        wordsOfTheMost();
        readBackWays();
        readBackFirst();
        readBackRefusals();
        fatesOfOne();
        fatesOfMore();
        degrees();
        fatesByOneTableBehindAnother();
        begins();
        listed();
        listedFarOn();
        due.close("WordsBoundsTest");
    }

    private static void placesOfFew() {
        String letters = "fabbacadaeaf";
        LetterNights x = Due.street("street tables 1 moon 0;stands " + letters + ";");
        due.is("8: below 0", x.letter(-1), -3);
        for (int place = 0; place <= 12; place++) {
            due.is("8: letter " + place, x.letter(place), place < 12 ? letters.charAt(place) - 'a' : -1);
            for (int letter = 0; letter < 6; letter++) {
                int ahead = 0;
                for (int i = 0; i < place; i++) {
                    ahead += letters.charAt(i) - 'a' == letter ? 1 : 0;
                }
                due.is("9: ahead of " + place, x.count(letter, place), ahead);
            }
        }
        for (int letter = -1; letter <= 6; letter++) {
            boolean none = letter < 0 || letter > 5;
            due.is("9: letter " + letter + " below 0", x.count(letter, -1), none ? -2 : -3);
            due.is("9: letter " + letter + " above the length", x.count(letter, 13), none ? -2 : -3);
            due.is("10: letter " + letter + ", k is 0", x.place(letter, 0), none ? -2 : -3);
            due.is("10: letter " + letter + ", k is 13", x.place(letter, 13), none ? -2 : -1);
        }
    }

    private static void placesOfNone() {
        LetterNights x = Due.street("street tables 1 moon 0;rule 0 a : nothing;");
        x.night(0);
        due.is("7: none", x.length(), 0);
        due.is("8: place 0", x.letter(0), -1);
        due.is("8: below 0", x.letter(-1), -3);
        for (int letter = 0; letter < 6; letter++) {
            due.is("9: ahead of place 0", x.count(letter, 0), 0);
            due.is("9: ahead of place 1", x.count(letter, 1), -3);
            due.is("10: the first one", x.place(letter, 1), -1);
            due.is("10: k is 0", x.place(letter, 0), -3);
        }
    }

    private static void placesOfMany() {
        for (long length : new long[] {2, 3, (1L << 31) - 1, 1L << 31, (1L << 32) + 1, Due.MOST - 1, Due.MOST}) {
            LetterNights x = Due.longStreet(length, "");
            due.is("7: length", x.length(), length);
            due.is("8: the first one", x.letter(0), 2);
            due.is("8: the second one", x.letter(1), 0);
            due.is("8: the last one of " + length, x.letter(length - 1), 0);
            due.is("8: behind " + length, x.letter(length), -1);
            due.is("9: all", x.count(0, length), length - 1);
            due.is("9: but the last one", x.count(0, length - 1), length - 2);
            due.is("9: above", x.count(0, length + 1), -3);
            due.is("9: all c", x.count(2, length), 1);
            due.is("9: c ahead of 1", x.count(2, 1), 1);
            due.is("9: c ahead of 0", x.count(2, 0), 0);
            due.is("9: none of f", x.count(5, length), 0);
            due.is("10: the first a", x.place(0, 1), 1);
            due.is("10: the last a", x.place(0, length - 1), length - 1);
            due.is("10: not so many", x.place(0, length), -1);
            due.is("10: the first c", x.place(2, 1), 0);
            due.is("10: no second c", x.place(2, 2), -1);
            due.is("10: no f", x.place(5, 1), -1);
        }
        LetterNights x = new LetterNights();
        for (long far : new long[] {1, 2, 1L << 31, 1L << 32, Long.MAX_VALUE}) {
            due.is("8: far on " + far, x.letter(far), -1);
            due.is("9: far on " + far, x.count(0, far), far == 1 ? 1 : -3);
            due.is("10: far on " + far, x.place(0, far), far == 1 ? 0 : -1);
        }
        for (long below : new long[] {-1, -(1L << 32), Long.MIN_VALUE}) {
            due.is("8: below " + below, x.letter(below), -3);
            due.is("9: below " + below, x.count(0, below), -3);
            due.is("10: below " + below, x.place(0, below), -3);
        }
    }

    private static void kthOnes() {
        // Each night puts b between and at the ends: bababab ...
        LetterNights x = Due.street("street tables 1 moon 0;stands bab;rule 0 a : aba;");
        x.nights(35);
        long b = (1L << 35) + 1;
        due.is("7: one b more than a", x.length(), 2 * b - 1);
        for (long k : new long[] {1, 2, 3, b / 2, b - 2, b - 1, b}) {
            due.is("10: b " + k, x.place(1, k), 2 * k - 2);
            due.is("10: a " + k, x.place(0, k), k < b ? 2 * k - 1 : -1);
            due.is("9: ahead of b " + k, x.count(1, 2 * k - 2), k - 1);
            due.is("9: ahead of b " + k + ", a", x.count(0, 2 * k - 2), k - 1);
            due.is("9: as far as b " + k, x.count(1, 2 * k - 1), k);
            due.is("8: b " + k, x.letter(2 * k - 2), 1);
        }
        due.is("10: no more b", x.place(1, b + 1), -1);
    }

    private static void placesBehindSixtyNights() {
        // One b more in each night, ahead of all others: the c of the first night comes last.
        LetterNights x = Due.street("street tables 2 moon 0;stands ac;rule 0 a : ab;rule 1 a : ad;");
        for (int night = 0; night < 60; night++) {
            x.night(night == 0 || night == 59 ? 2 : 1);
        }
        due.is("7: a, 60 more, c", x.length(), 62);
        due.is("9: d ahead of c", x.count(3, 61), 2);
        due.is("10: the first d, of the last night", x.place(3, 1), 1);
        due.is("10: the last d, of the first night", x.place(3, 2), 60);
        due.is("8: it stands there", x.letter(60), 3);
        due.is("8: c", x.letter(61), 2);
        due.is("9: all b", x.count(1, 62), 58);
        word(x, "behind sixty nights", "bdc", 1, 59);
        word(x, "behind sixty nights", "adb", 1, 0);
        word(x, "behind sixty nights", "bbbbbb", 53, 2);
        Due.tray(x, 0, 0, 0, 0);
        due.is("39: the last three", x.lists(0, 59), 3);
        due.is("19: bdc", x.first(0), 59);
    }

    /** Each of them is the first question that an object is asked behind its nights. */
    private static void askedAlone() {
        for (int nights = 2; nights <= 4; nights++) {
            // f, then a and b by turns, a at the end.
            long length = 2L << nights;
            long[] dueAnswers = {1, length / 2 - 1, 4, length / 2 - 1, 2, 1, 1};
            for (int question = 0; question < dueAnswers.length; question++) {
                LetterNights x = Due.street("street tables 1 moon 0;stands fa;rule 0 a : aba;");
                Due.tray(x, 0, 1);
                for (int earlier = 0; earlier < dueAnswers.length; earlier++) {
                    ask(x, earlier, 2);
                }
                Due.tray(x, 0, 1);
                x.nights(nights);
                due.is("8 to 10, 18, 19, 39: question " + question + " alone", ask(x, question, length), dueAnswers[question]);
            }
        }
    }

    private static long ask(LetterNights x, int question, long length) {
        switch (question) {
            case 0:
                return x.letter(length - 2);
            case 1:
                return x.count(1, length - 1);
            case 2:
                return x.place(1, 2);
            case 3:
                return x.occurs(0);
            case 4:
                return x.first(0);
            case 5:
                return x.lists(0, length - 1);
            default:
                return x.count(1, Math.min(3, length));
        }
    }

    private static void word(LetterNights x, String what, String word, long often, long first) {
        x.numbers(3, 0, word.length());
        for (int i = 0; i < word.length(); i++) {
            x.write(3, i, word.charAt(i) - 'a');
        }
        due.is("18: " + what + ": " + word, x.occurs(3), often);
        due.is("19: " + what + ": " + word, x.first(3), first);
    }

    private static void longestAndShortestWords() {
        LetterNights x = Due.street("street tables 1 moon 0;stands abcdef;");
        word(x, "no number", "", -4, -4);
        for (int n = 1; n <= 6; n++) {
            word(x, "from the first place", "abcdef".substring(0, n), 1, 0);
            word(x, "to the last place", "abcdef".substring(6 - n), 1, 6 - n);
        }
        word(x, "seven numbers", "abcdefa", -4, -4);
        LetterNights five = Due.street("street tables 1 moon 0;stands abcde;");
        word(five, "longer than the street", "abcdef", 0, -1);
        word(five, "the whole street", "abcde", 1, 0);
        LetterNights none = Due.street("street tables 1 moon 0;rule 0 a : nothing;");
        none.night(0);
        word(none, "of nothing", "a", 0, -1);
        word(none, "of nothing", "abcdef", 0, -1);
    }

    private static void lettersOfWords() {
        LetterNights x = Due.street("street tables 1 moon 0;stands af;");
        long[] numbers = {-2, -1, 0, 5, 6, 255, 256, 1L << 32, (1L << 32) + 5, Long.MIN_VALUE, Long.MAX_VALUE};
        for (long n : numbers) {
            boolean letter = n == 0 || n == 5;
            Due.tray(x, 0, n);
            due.is("18: the number " + n, x.occurs(0), letter ? 1 : -3);
            due.is("19: the number " + n, x.first(0), n == 0 ? 0 : n == 5 ? 1 : -3);
            due.is("20: the number " + n, x.backs(0, 0), letter ? 1 : -3);
            due.is("21: the number " + n, x.backBy(0, 0, 0), letter ? n : -3);
            Due.tray(x, 0, 0, 0, 0, 0, 0, n);
            due.is("18: the sixth is " + n, x.occurs(0), letter ? 0 : -3);
            due.is("19: the sixth is " + n, x.first(0), letter ? -1 : -3);
            due.is("20: the sixth is " + n, x.backs(0, 0), letter ? 1 : -3);
        }
        // Cut to 8 bits they are letters again.
        x.numbers(1, 0, 2);
        x.write(1, 0, 256);
        x.write(1, 1, 256 + 5);
        due.is("18: 256 and 261 of 8 bits", x.occurs(1), 1);
    }

    private static void wordsOnTheEdge() {
        LetterNights x = Due.street("street tables 1 moon 0;stands bacbacbac;");
        word(x, "at 0", "bacb", 2, 0);
        word(x, "at 1", "acb", 2, 1);
        word(x, "at the end alone", "acbac", 2, 1);
        word(x, "over the end", "cbacb", 1, 2);
        word(x, "over the end", "acbacb", 1, 1);
        word(x, "nowhere", "bc", 0, -1);
        LetterNights y = Due.street("street tables 1 moon 0;stands abababababaf;");
        word(y, "the last place", "f", 1, 11);
        word(y, "the last places", "babaf", 1, 7);
        word(y, "the last six", "ababaf", 1, 6);
        word(y, "all but the last ones", "ababab", 3, 0);
        word(y, "over the end", "fa", 0, -1);
    }

    private static void oneUponTheOther() {
        for (int n = 1; n <= 12; n++) {
            LetterNights x = Due.street("street tables 1 moon 0;stands " + "aaaaaaaaaaaa".substring(0, n) + ";");
            for (int size = 1; size <= 6; size++) {
                int often = Math.max(0, n - size + 1);
                word(x, "among " + n, "aaaaaa".substring(0, size), often, often > 0 ? 0 : -1);
            }
        }
        String[] streets = {"abaabaabaaba", "abababababab", "aabaabaaabaa", "aaabaaabaaab", "abcabcababca", "aabbaabbaabb"};
        for (String street : streets) {
            LetterNights x = Due.street("street tables 1 moon 0;stands " + street + ";");
            for (int from = 0; from < 12; from += 2) {
                for (int size = 1; size <= 6 && from + size <= 12; size++) {
                    String word = street.substring(from, from + size);
                    int often = 0;
                    for (int at = 0; at + size <= 12; at++) {
                        often += street.startsWith(word, at) ? 1 : 0;
                    }
                    word(x, street, word, often, street.indexOf(word));
                }
            }
        }
    }

    /** Words that stand over what several letters become, some of which become nothing. */
    private static void wordsAcrossNights() {
        LetterNights x = Due.street("street tables 2 moon 0;stands acaca;rule 0 a : d;rule 0 c : nothing;rule 1 d : ab;");
        x.night(1);
        word(x, "nothing in between", "ddd", 1, 0);
        word(x, "once more", "dd", 2, 0);
        x.night(2);
        word(x, "six letters of three", "ababab", 1, 0);
        word(x, "over two of them", "ba", 2, 1);
        word(x, "over three of them", "baba", 1, 1);
        LetterNights y = Due.street("street tables 1 moon 0;stands fa;rule 0 a : aa;rule 0 f : nothing;");
        y.nights(39);
        word(y, "far on", "aaaaaa", (1L << 39) - 5, 0);
    }

    private static void wordsOfTheMost() {
        LetterNights x = Due.longStreet(Due.MOST, "rule 2 c : f;rule 2 a : a;");
        for (int size = 1; size <= 6; size++) {
            word(x, "of the most", "aaaaaa".substring(0, size), Due.MOST - size, 1);
        }
        word(x, "of the most", "c", 1, 0);
        word(x, "of the most", "caaaaa", 1, 0);
        word(x, "of the most", "ac", 0, -1);
        x.night(3);
        word(x, "of the most", "c", 0, -1);
        word(x, "of the most", "faaaaa", 1, 0);
        LetterNights last = Due.street("street tables 1 moon 0;stands ab;rule 0 a : aa;");
        last.nights(39);
        word(last, "at the last place", "b", 1, 1L << 39);
        word(last, "at the last places", "aaaaab", 1, (1L << 39) - 5);
    }

    private static void backs(LetterNights x, String word, int table, int ways, String first) {
        x.numbers(2, 1, word.length());
        for (int i = 0; i < word.length(); i++) {
            x.write(2, i, word.charAt(i) - 'a');
        }
        due.is("20: " + word, x.backs(2, table), ways);
        for (int i = 0; i <= 6; i++) {
            due.is("21: letter " + i + " of " + word, x.backBy(2, table, i), i < first.length() ? first.charAt(i) - 'a' : -1);
        }
        due.is("21: far on", x.backBy(2, table, Integer.MAX_VALUE), -1);
        due.is("21: below 0", x.backBy(2, table, -1), -3);
    }

    private static final String ALL_TO_F = "rule 0 a : f;rule 0 b : f;rule 0 c : f;rule 0 d : f;rule 0 e : f;";

    private static void readBackWays() {
        LetterNights x = Due.street("street tables 2 moon 0;" + ALL_TO_F + "rule 1 f : aaaa;rule 1 e : nothing;");
        int ways = 1;
        for (int n = 1; n <= 6; n++) {
            ways *= 6;
            backs(x, "ffffff".substring(0, n), 0, ways, "aaaaaa".substring(0, n));
        }
        backs(x, "fffffa", 0, 0, "");
        backs(x, "afffff", 0, 0, "");
        backs(x, "aaaa", 1, 2, "aaaa");
        backs(x, "aaaaaa", 1, 4, "aaaaaa");
        backs(x, "aaa", 1, 1, "aaa");
        backs(x, "e", 1, 0, "");
        backs(x, "f", 1, 0, "");
        backs(x, "bcdbcd", 1, 1, "bcdbcd");
    }

    /** All words of 1 to 6 letters are tried: those that become the word, the least of them first. */
    private static void readBackFirst() {
        String[][] tables = {
            {"ab", "a", "b", "ba", "abab", ""},
            {"bb", "ab", "bba", "b", "aa", "aabb"},
            {"", "", "", "", "", "a"},
            {"aaaa", "aaa", "aa", "a", "b", "bb"},
            {"ba", "b", "a", "", "ab", "bab"}
        };
        for (String[] rules : tables) {
            StringBuilder text = new StringBuilder("street tables 1 moon 0;");
            for (int letter = 0; letter < 6; letter++) {
                text.append("rule 0 ").append((char) ('a' + letter)).append(" : ").append(rules[letter].isEmpty() ? "nothing" : rules[letter]).append(';');
            }
            for (String word : new String[] {"a", "b", "ab", "ba", "abb", "aab", "abab", "bbab", "aaaaaa", "ababab", "bbabba", "aabbab"}) {
                List<String> found = new ArrayList<>();
                read(rules, word, "", found);
                found.sort(null);
                backs(Due.street(text.toString()), word, 0, found.size(), found.isEmpty() ? "" : found.get(0));
            }
        }
    }

    private static void read(String[] rules, String rest, String so, List<String> found) {
        if (rest.isEmpty()) {
            found.add(so);
        }
        for (int letter = 0; letter < 6; letter++) {
            if (!rules[letter].isEmpty() && rest.startsWith(rules[letter])) {
                read(rules, rest.substring(rules[letter].length()), so + (char) ('a' + letter), found);
            }
        }
    }

    private static void readBackRefusals() {
        for (int tables = 1; tables <= 3; tables++) {
            LetterNights x = Due.street("street tables " + tables + " moon 0;");
            Due.tray(x, 0, 1);
            due.is("20: the last table", x.backs(0, tables - 1), 1);
            due.is("20: behind it", x.backs(0, tables), -2);
            due.is("21: the last table", x.backBy(0, tables - 1, 0), 1);
            due.is("21: behind it", x.backBy(0, tables, 0), -2);
        }
    }

    private static LetterNights rules(String rules) {
        return Due.street("street tables 2 moon 0;" + rules);
    }

    private static void fateOf(String rules, int letter, int fate, int degree) {
        LetterNights x = rules(rules);
        due.is("22: letter " + letter + " by " + rules, x.fate(0, letter), fate);
        due.is("23: letter " + letter + " by " + rules, x.degree(0, letter), degree);
        due.is("22: by the other table", x.fate(1, letter), 1);
        due.is("23: by the other table", x.degree(1, letter), -1);
    }

    private static void fatesOfOne() {
        fateOf("", 5, 1, -1);
        fateOf("rule 0 f : nothing;", 5, 0, -1);
        fateOf("rule 0 f : ff;", 5, 3, -1);
        fateOf("rule 0 f : ffff;", 5, 3, -1);
        fateOf("rule 0 f : fe;", 5, 2, 1);
        fateOf("rule 0 f : fe;rule 0 e : nothing;", 5, 1, -1);
        fateOf("rule 0 f : eeee;", 5, 1, -1);
        fateOf("rule 0 f : eeee;rule 0 e : nothing;", 5, 0, -1);
        fateOf("rule 0 f : eeee;rule 0 e : dddd;rule 0 d : cccc;rule 0 c : bbbb;rule 0 b : aaaa;", 5, 1, -1);
        fateOf("rule 0 f : eeee;rule 0 e : dddd;rule 0 d : cccc;rule 0 c : bbbb;rule 0 b : aaaa;rule 0 a : nothing;", 5, 0, -1);
    }

    private static void fatesOfMore() {
        // Doubling that is only come to, five nights on; by two letters that aren't alike; one way of two dies out.
        fateOf("rule 0 a : b;rule 0 b : c;rule 0 c : d;rule 0 d : e;rule 0 e : f;rule 0 f : ff;", 0, 3, -1);
        fateOf("rule 0 a : bc;rule 0 b : a;rule 0 c : a;", 0, 3, -1);
        fateOf("rule 0 a : bc;rule 0 b : a;rule 0 c : nothing;", 0, 1, -1);
        fateOf("rule 0 a : bc;rule 0 b : a;rule 0 c : d;", 0, 2, 1);
        fateOf("rule 0 a : bb;rule 0 b : a;", 1, 3, -1);
        fateOf("rule 0 a : ab;rule 0 b : bc;rule 0 c : cc;", 0, 3, -1);
        fateOf("rule 0 a : ab;rule 0 b : cc;rule 0 c : d;", 0, 2, 1);
        fateOf("rule 0 a : bcde;rule 0 f : ff;", 0, 1, -1);
        fateOf("rule 0 a : b;rule 0 b : c;rule 0 c : d;rule 0 d : e;rule 0 e : f;rule 0 f : a;", 3, 1, -1);
        fateOf("rule 0 a : b;rule 0 b : c;rule 0 c : d;rule 0 d : e;rule 0 e : f;rule 0 f : aa;", 3, 3, -1);
        fateOf("rule 0 a : b;rule 0 b : c;rule 0 c : d;rule 0 d : e;rule 0 e : f;rule 0 f : nothing;", 0, 0, -1);
    }

    private static void degrees() {
        String chain = "rule 0 a : ab;rule 0 b : bc;rule 0 c : cd;rule 0 d : de;rule 0 e : ef;";
        for (int letter = 0; letter < 5; letter++) {
            fateOf(chain, letter, 2, 5 - letter);
        }
        fateOf(chain, 5, 1, -1);
        // Backwards, so that none is known ahead of the others.
        String back = "rule 0 f : fe;rule 0 e : ed;rule 0 d : dc;rule 0 c : cb;rule 0 b : ba;";
        for (int letter = 1; letter < 6; letter++) {
            fateOf(back, letter, 2, letter);
        }
        fateOf(chain + "rule 0 f : nothing;", 0, 2, 4);
        fateOf(chain + "rule 0 f : ff;", 0, 3, -1);
        // Letters of one round count as one; letters that don't come to themselves don't count.
        fateOf("rule 0 a : bc;rule 0 b : a;rule 0 c : d;rule 0 d : ce;", 0, 2, 2);
        fateOf("rule 0 a : ab;rule 0 b : c;rule 0 c : d;rule 0 d : de;", 0, 2, 2);
        fateOf("rule 0 a : b;rule 0 b : bc;", 0, 2, 1);
        // Of two ways the longer one, and both ends are the same.
        fateOf("rule 0 a : abd;rule 0 b : bc;rule 0 c : cd;", 0, 2, 3);
        fateOf("rule 0 a : ad;rule 0 b : bc;rule 0 d : de;rule 0 e : ef;", 0, 2, 3);
    }

    private static void fatesByOneTableBehindAnother() {
        LetterNights x = Due.street("street tables 3 moon 0;rule 0 a : ab;rule 0 b : bc;rule 1 a : nothing;rule 1 b : nothing;rule 1 c : nothing;"
                + "rule 2 a : aab;rule 2 b : c;rule 2 c : nothing;");
        int[][] fates = {{2, 2, 1}, {0, 0, 0}, {3, 0, 0}};
        int[][] degrees = {{2, 1, -1}, {-1, -1, -1}, {-1, -1, -1}};
        for (int table : new int[] {0, 1, 2, 1, 0, 2, 0}) {
            for (int letter = 0; letter < 3; letter++) {
                due.is("22: letter " + letter + " by table " + table, x.fate(table, letter), fates[table][letter]);
                due.is("23: letter " + letter + " by table " + table, x.degree(table, letter), degrees[table][letter]);
            }
        }
        Texts.tell(x, "street tables 1 moon 0;rule 0 a : b;rule 0 b : nothing;");
        due.is("22: by another street's table", x.fate(0, 0), 0);
        due.is("22: by another street's table", x.fate(0, 2), 1);
    }

    private static void begins() {
        String[] becomes = {"a", "aa", "ab", "aaaa", "ba", "baaa", "b", "nothing", "abcd"};
        int[] bits = {0, 1, 1, 1, 0, 0, 0, 0, 1};
        for (int i = 0; i < becomes.length; i++) {
            due.is("24: a : " + becomes[i], rules("rule 0 a : " + becomes[i] + ";").begins(0), bits[i]);
        }
        due.is("24: all", rules("rule 0 a : ab;rule 0 b : bb;rule 0 c : cccc;rule 0 d : da;rule 0 e : ef;rule 0 f : fa;").begins(0), 63);
        due.is("24: none", new LetterNights().begins(0), 0);
        due.is("24: by the other table", rules("rule 0 a : ab;rule 1 f : fa;").begins(1), 32);
        LetterNights three = Due.street("street tables 3 moon 0;rule 2 b : bb;");
        due.is("24: by the last table", three.begins(2), 2);
        due.is("24: behind it", three.begins(3), -2);
    }

    private static void listed() {
        for (int size = 0; size <= 8; size++) {
            for (int place = -1; place <= 7; place++) {
                LetterNights x = Due.street("street tables 1 moon 0;stands abcdef;");
                x.numbers(0, 0, size);
                for (int i = 0; i < size; i++) {
                    x.write(0, i, 5);
                }
                int many = Math.min(size, 6 - place);
                due.is("39: " + size + " places, from " + place, x.lists(0, place), place < 0 || place > 6 ? -3 : many);
                if (size > 0 && size <= 6) {
                    // What came in, and those behind it, that stay.
                    boolean refused = place < 0 || place > 6;
                    String word = refused ? "ffffff".substring(0, size) : ("abcdef".substring(place) + "ffffff").substring(0, size);
                    due.is("39: " + word + " is there", x.backBy(0, 0, size - 1), word.charAt(size - 1) - 'a');
                    due.is("39: " + word + " begins so", x.backBy(0, 0, 0), word.charAt(0) - 'a');
                    due.is("18: " + word, x.occurs(0), "abcdef".contains(word) ? 1 : 0);
                }
            }
        }
    }

    private static void listedFarOn() {
        LetterNights x = Due.longStreet(Due.MOST, "");
        x.numbers(0, 3, 40);
        due.is("39: forty from the first place", x.lists(0, 0), 40);
        due.is("39: the last forty", x.lists(0, Due.MOST - 40), 40);
        due.is("39: thirty-nine", x.lists(0, Due.MOST - 39), 39);
        due.is("39: one", x.lists(0, Due.MOST - 1), 1);
        due.is("39: none", x.lists(0, Due.MOST), 0);
        due.is("39: behind the length", x.lists(0, Due.MOST + 1), -3);
        for (int sort = 0; sort < 4; sort++) {
            x.numbers(1, sort, 2);
            due.is("39: c and a", x.lists(1, 0), 2);
            due.is("19: ca", x.first(1), 0);
            due.is("39: a and a", x.lists(1, Due.MOST - 2), 2);
            due.is("19: aa", x.first(1), 1);
        }
    }
}
