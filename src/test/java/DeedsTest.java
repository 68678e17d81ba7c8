/** Promises 11 to 17: nights, moons, what is undone, judged and performed, years. */
public final class DeedsTest {
    private static final Due due = new Due();

    public static void main(String[] args) {
        nights();
        mostNights();
        mostLetters();
        nightsOfThemselves();
        moons();
        undoing();
        judging();
        performing();
        years();
        due.close("DeedsTest");
    }

    private static void nights() {
        LetterNights x = Due.street("street tables 2 moon 0;stands ab;rule 0 a : ba;rule 1 b : nothing;picks : night;");
        due.is("11: of itself, table 0", x.night(0), 3);
        due.is("11: bab, of itself, table 1", x.night(0), 1);
        due.is("11: a stays", x.letter(0), 0);
        due.is("11: by table 0", x.night(1), 2);
        due.is("11: by table 1", x.night(2), 1);
        due.is("11: no table 2", x.night(3), -11);
        due.is("11: no deed", x.night(4), -11);
        due.is("11: no moon here", x.night(10), -11);
        due.is("11: below 0", x.night(-1), -11);
        due.is("11: nights", x.told(2), 4);
        due.is("11: can be undone", x.told(7), 4);
        due.is("11: all at once", Due.street("street tables 1 moon 0;stands ab;rule 0 a : b;rule 0 b : a;").night(0), 2);
        LetterNights y = Due.street("street tables 1 moon 0;stands ab;rule 0 a : b;rule 0 b : a;");
        y.night(0);
        due.is("11: at once, first", y.letter(0), 1);
        due.is("11: at once, last", y.letter(1), 0);
    }

    private static void mostNights() {
        LetterNights x = Due.street("street tables 1 moon 0;sleeps : moon = 1;");
        due.is("12: sixty", x.nights(60), 60);
        due.is("11: no more", x.night(0), -12);
        due.is("11: no more by a table", x.night(1), -12);
        due.is("11: no such table is told first", x.night(2), -11);
        due.is("12: nothing was done", x.nights(1), 0);
        due.is("12: one call", x.told(7), 1);
        x.moon(1);
        due.is("11: sleeping", x.night(0), 1);
        due.is("11: not by a table", x.night(1), -12);
        due.is("12: sleeping", x.nights(60), 60);
        due.is("42: all nights", x.told(2), 121);
        due.is("42: awake", x.told(3), 60);
        due.is("6: picks at the end", x.picks(), -1);
        x.moon(0);
        due.is("6: picks all the same", x.picks(), 0);
    }

    /** The a's are told by digits of 3, one a night; c stands ahead. */
    private static LetterNights counted(long letters, int digits) {
        LetterNights x = Due.street("street tables 3 moon 0;stands c;rule 0 a : aaa;rule 1 a : aaa;rule 2 a : aaa;"
                + "rule 1 c : ca;rule 2 c : caa;");
        long power = 1;
        for (int i = 1; i < digits; i++) {
            power *= 3;
        }
        for (int i = 0; i < digits; i++) {
            if (i == digits - 1) {
                x.image(0);
            }
            x.night(1 + (int) (letters / power % 3));
            power /= 3;
        }
        return x;
    }

    private static void mostLetters() {
        long most = 1_000_000_000_000L;
        LetterNights x = counted(most - 1, 26);
        due.is("11: the most", x.length(), most);
        due.is("11: above it", x.night(1), -13);
        due.is("11: nothing changed", x.length(), most);
        due.is("11: nothing changed", x.told(3), 26);
        due.is("8: the last one", x.letter(most - 1), 0);
        due.is("9: all", x.count(0, most), most - 1);
        due.is("10: the last one", x.place(0, most - 1), most - 1);
        due.is("12: no night", x.nights(5), 0);
        due.is("33: rows know no such limit", x.turned(7), 2187 * (most - 1) + turnedC());
        LetterNights y = counted(most, 26);
        due.is("11: one too many", y.told(3), 25);
        due.is("11: one too many", y.night(2), -13);
        due.is("11: one less is not", y.night(1), most);
    }

    /** What becomes of c by turns for 7 nights: the first one picks two a more, the other one none. */
    private static long turnedC() {
        long letters = 0;
        for (int night = 0; night < 7; night++) {
            letters = letters * 3 + (night % 2 == 0 ? 2 : 0);
        }
        return letters + 1;
    }

    private static void nightsOfThemselves() {
        LetterNights x = Due.street("street tables 1 moon 0;rule 0 a : aa;");
        due.is("12: below 1", x.nights(0), -3);
        due.is("12: above 60", x.nights(61), -3);
        due.is("12: till it is too long", x.nights(60), 39);
        due.is("7: 2 to the 39th", x.length(), 1L << 39);
        due.is("11: too long", x.night(0), -13);
        due.is("14: one call", x.undo(1), 0);
        due.is("14: all as it was", x.length(), 1);
    }

    private static void moons() {
        LetterNights x = Due.street("street tables 1 moon 9;");
        due.is("13: what it was", x.moon(0), 9);
        due.is("13: what it was", x.moon(0), 0);
        due.is("13: even if all is as it was", x.told(7), 2);
        due.is("13: above", x.moon(10), -11);
        due.is("13: below", x.moon(-1), -11);
        due.is("13: not counted", x.told(7), 2);
        due.is("13: no night", x.told(2), 0);
        due.is("14: back", x.undo(2), 0);
        due.is("14: the moon", x.told(1), 9);
    }

    private static void undoing() {
        LetterNights x = Due.street("street tables 2 moon 0;rule 0 a : ab;rule 1 b : c;sleeps : moon = 9;");
        x.nights(2);
        x.night(2);
        x.moon(9);
        x.night(0);
        due.is("14: below 1", x.undo(0), -3);
        due.is("14: more than can be", x.undo(5), -3);
        due.is("14: below 0", x.undo(-1), -3);
        due.is("14: the sleeping night", x.undo(1), 3);
        due.is("14: nights", x.told(2), 3);
        due.is("14: two", x.undo(2), 1);
        due.is("14: the moon", x.told(1), 0);
        due.is("14: abb", x.letter(2), 1);
        due.is("14: nights awake", x.told(3), 2);
        due.is("14: the last letter", x.told(5), 1);
        due.is("14: kinds", x.told(6), 2);
        x.night(1);
        due.is("14: another way", x.length(), 4);
        for (int i = 0; i < 12; i++) {
            x.moon(i % 9);
        }
        due.is("14: ten at most", x.told(7), 10);
        due.is("14: above 10", x.undo(11), -3);
        due.is("14: ten", x.undo(10), 0);
        due.is("14: the eldest are forgotten", x.told(1), 1);
        due.is("14: no more", x.undo(1), -3);
    }

    private static void judging() {
        LetterNights x = Due.street("street tables 2 moon 0;rule 0 a : aa;rule 1 a : nothing;picks : moon;sleeps : night = 20;");
        Due.tray(x, 0, 1, 1, 1, 11, 0, 0);
        judged(x, "15: all can be", -1, 0, 0, 6);
        Due.tray(x, 0, 1, 1, 1, 3, 0);
        judged(x, "15: no table", 3, 1, 8, 0);
        Due.tray(x, 0);
        judged(x, "15: nothing", -1, 0, 1, 0);
        Due.tray(x, 0, 1, 1, 1, 1, 1, 1, 1, 1, 1, 1, 1, 1, 1, 1, 1, 1, 1, 1, 1, 1, 0, 1, 1, 1, 1, 1, 1, 1, 1, 1, 1, 1,
                1, 1, 1, 1, 1, 1, 1, 1);
        judged(x, "15: 2 to the 39th, one slept", -1, 0, (int) ((1L << 39) % 1_000_000), 0);
        x.night(1);
        judged(x, "15: none slept, one night more", 38, 3, (int) ((1L << 39) % 1_000_000), 0);
        for (long bad : new long[] {-1, 4, 9, 20, 256, 4294967296L, Long.MIN_VALUE}) {
            Due.tray(x, 0, 19, bad, 1);
            judged(x, "15: no deed " + bad, 1, 1, 2, 0);
        }
        due.is("15: no such tray", x.judge(4, 0), -2);
        due.is("15: no such tray", x.judge(-1, 0), -2);
        due.is("15: no such what", x.judge(0, 4), -2);
        due.is("15: no such what of none", x.judge(1, -1), -2);
        due.is("15: missing", x.judge(1, 0), -6);
        due.is("15: nothing was done", x.length(), 2);
        due.is("15: nothing was done", x.told(1), 0);
        due.is("15: nothing to undo", x.told(7), 1);
    }

    private static void judged(LetterNights x, String what, int place, int why, int rest, int letter) {
        due.is(what + ", place", x.judge(0, 0), place);
        due.is(what + ", why", x.judge(0, 1), why);
        due.is(what + ", rest", x.judge(0, 2), rest);
        due.is(what + ", letter", x.judge(0, 3), letter);
    }

    private static void performing() {
        LetterNights x = Due.street("street tables 1 moon 0;rule 0 a : ab;");
        Due.tray(x, 2, 0, 15, 1, 2, 1);
        due.is("16: three", x.perform(2), 3);
        due.is("16: length", x.length(), 3);
        due.is("16: moon", x.told(1), 5);
        due.is("16: one call", x.told(7), 1);
        Due.tray(x, 2, 2);
        due.is("16: none", x.perform(2), 0);
        Due.tray(x, 2);
        due.is("16: nothing", x.perform(2), 0);
        due.is("16: not to be undone", x.told(7), 1);
        due.is("16: missing", x.perform(3), -6);
        due.is("16: no such tray", x.perform(4), -2);
        due.is("16: no such tray", x.perform(-1), -2);
        due.is("14: as a whole", x.undo(1), 0);
        due.is("14: length", x.length(), 1);
        due.is("14: moon", x.told(1), 0);
    }

    private static void years() {
        LetterNights x = Due.street("street tables 2 moon 0;rule 0 a : ab;rule 1 a : ba;picks : moon;sleeps : moon = 4;");
        LetterNights y = Due.street("street tables 2 moon 0;rule 0 a : ab;rule 1 a : ba;picks : moon;sleeps : moon = 4;");
        int seen = 0;
        for (int seed = -4; seed < 9; seed++) {
            int draws = seed * 77777;
            int done = 0;
            for (int i = 0; i < 20; i++) {
                draws = draws * 1103515245 + 12345;
                int kind = (draws >>> 16) % 5;
                long deed = 0;
                if (kind > 1) {
                    draws = draws * 1103515245 + 12345;
                    deed = kind == 4 ? 10 + (draws >>> 16) % 10 : (draws >>> 16) % 4;
                }
                seen |= 1 << deed;
                Due.tray(y, 0, deed);
                done += y.perform(0);
            }
            due.is("17: year " + seed, x.year(seed * 77777, 20), done);
            due.is("17: length", x.length(), y.length());
            due.is("17: nights", x.told(2), y.told(2));
            due.is("17: moon", x.told(1), y.told(1));
            due.is("17: first letter", x.told(4), y.told(4));
            if (x.told(3) > 30) {
                x.image(0);
                x.undo(x.told(7));
                y = Due.street("street tables 2 moon 0;rule 0 a : ab;rule 1 a : ba;picks : moon;sleeps : moon = 4;");
            }
        }
        due.holds("17: all kinds of deeds were drawn", Integer.bitCount(seen) >= 10);
        due.is("17: below 1", x.year(1, 0), -3);
        due.is("17: above 20", x.year(1, 21), -3);
        due.is("17: below 0", x.year(1, -1), -3);
        LetterNights full = new LetterNights();
        full.nights(60);
        int before = full.told(7);
        due.is("17: x is 12345, the draw 0: a night that can't be", full.year(0, 1), 0);
        due.is("17: nothing was done", full.told(7), before);
        LetterNights one = new LetterNights();
        due.is("17: one night", one.year(0, 1), 1);
        due.is("17: one call", one.told(7), 1);
    }
}
