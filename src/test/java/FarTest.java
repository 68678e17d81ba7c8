import java.util.Random;

/** Promises 7 to 10, 18, 19, 39 far beyond what the Model can hold: answers must fit one another. */
public final class FarTest {
    private static final Due due = new Due();

    public static void main(String[] args) {
        int far = 0;
        for (int seed = 0; seed < 400; seed++) {
            LetterNights x = farStreet(seed);
            far += x.length() > 1_000_000_000L ? 1 : 0;
            counts(x);
            places(x, new Random(seed));
            for (int more = 1; more <= 2; more++) {
                words(farStreet(seed), new Random(seed + 1000 * more));
            }
        }
        due.holds("many streets are very long: " + far, far > 40);
        due.close("FarTest");
    }

    /** Made by 170 calls at most. */
    private static LetterNights farStreet(int seed) {
        Random random = new Random(seed);
        String text = new Texts(random).good();
        String growing = seed % 2 == 0 ? "rule 0 a : abc;rule 0 b : dba;" : "rule 0 a : ba;rule 0 b : acb;stands fab;";
        LetterNights x = Due.street(text.length() + growing.length() > 900 ? text : text + growing);
        long was = x.length();
        for (int i = 0; i < 60; i++) {
            long length = x.night(random.nextInt(4));
            // Mostly nights by which it doesn't get shorter, so that it gets far.
            boolean keep = length >= was || random.nextInt(12) == 0;
            if (length >= 0 && keep) {
                was = length;
            } else if (length >= 0) {
                x.undo(1);
            }
        }
        return x;
    }

    private static void counts(LetterNights x) {
        long all = x.length();
        long sum = 0;
        int kinds = 0;
        for (int letter = 0; letter < 6; letter++) {
            long many = x.count(letter, all);
            sum += many;
            kinds += many > 0 ? 1 : 0;
            due.is("10: the last one", x.place(letter, many + 1), -1);
            Due.tray(x, 0, letter);
            due.is("18: a letter", x.occurs(0), many);
            due.is("19: a letter", x.first(0), x.place(letter, 1));
        }
        due.is("9: all letters", sum, all);
        due.is("42: kinds", x.told(6), kinds);
        due.is("42: first", x.told(4), all == 0 ? 6 : x.letter(0));
        due.is("42: last", x.told(5), all == 0 ? 6 : x.letter(all - 1));
        due.holds("7: no longer than the most", all <= 1_000_000_000_000L);
    }

    private static long somePlace(LetterNights x, Random random) {
        return (long) (random.nextDouble() * x.length());
    }

    private static void places(LetterNights x, Random random) {
        for (int i = 0; i < 10 && x.length() > 0; i++) {
            long place = somePlace(x, random);
            int letter = x.letter(place);
            long sum = 0;
            for (int other = 0; other < 6; other++) {
                long ahead = x.count(other, place);
                sum += ahead;
                due.is("9: behind", x.count(other, place + 1), ahead + (other == letter ? 1 : 0));
                due.holds("10: ahead", ahead == 0 || x.place(other, ahead) < place);
            }
            due.is("9: ahead", sum, place);
            due.is("10: there", x.place(letter, x.count(letter, place) + 1), place);
        }
    }

    private static void words(LetterNights x, Random random) {
        for (int i = 0; i < 3 && x.length() > 6; i++) {
            int size = 1 + random.nextInt(5);
            long place = Math.min(somePlace(x, random), x.length() - size);
            long[] word = new long[size];
            for (int k = 0; k < size; k++) {
                word[k] = x.letter(place + k);
            }
            x.numbers(1, 0, size);
            due.is("39: so many", x.lists(1, place), size);
            long often = x.occurs(1);
            long first = x.first(1);
            due.holds("18: it stands there", often > 0);
            due.holds("19: there or ahead", first >= 0 && first <= place);
            for (int k = 0; k < size; k++) {
                due.is("19: letter", x.letter(first + k), word[k]);
            }
            longer(x, word, often);
        }
    }

    /** Wherever a word stands a longer one stands, but at the end. */
    private static void longer(LetterNights x, long[] word, long often) {
        int size = word.length;
        long sum = 0;
        long first = Long.MAX_VALUE;
        for (int next = 0; next < 6; next++) {
            long[] more = java.util.Arrays.copyOf(word, size + 1);
            more[size] = next;
            Due.tray(x, 2, more);
            sum += x.occurs(2);
            if (x.first(2) >= 0) {
                first = Math.min(first, x.first(2));
            }
        }
        boolean atEnd = true;
        for (int k = 0; k < size; k++) {
            atEnd = atEnd && x.letter(x.length() - size + k) == word[k];
        }
        due.is("18: longer ones", sum, often - (atEnd ? 1 : 0));
        if (first != Long.MAX_VALUE) {
            due.is("19: longer ones", Math.min(first, x.first(1)), x.first(1));
            due.holds("19: the first of the longer ones", !(often > 1 && !atEnd) || first == x.first(1));
        }
    }
}
