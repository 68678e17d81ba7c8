/** The edges of deeds (terms, promises 7 and 11 to 17): so many nights, letters, calls to be undone. */
public final class DeedsBoundsTest {
    private static final Due due = new Due();

    public static void main(String[] args) {
        sixtyNights();
        sixtyAheadOfTooLong();
        mostLetters();
        tooLongByOne();
        oneNight();
        nightsOfThemselves();
        moons();
        whatIsUndone();
        whatIsNotUndone();
        tenAtMost();
        eldestOfEachKind();
        undoneAnew();
        judged();
        fortyDeeds();
        deedsThatCanBe();
        performed();
        years();
        yearsThatGoOn();
        lastCall();
        due.close("DeedsBoundsTest");
    }

    private static void told(LetterNights x, String what, int moon, int nights, int awake, int undone) {
        due.is(what + ": moon", x.told(1), moon);
        due.is(what + ": nights", x.told(2), nights);
        due.is(what + ": awake", x.told(3), awake);
        due.is(what + ": can be undone", x.told(7), undone);
    }

    private static void sixtyNights() {
        LetterNights x = Due.street("street tables 2 moon 0;rule 1 a : ab;sleeps : moon = 9;");
        for (int night = 1; night <= 60; night++) {
            due.is("11: night " + night, x.night(night % 2), 1);
        }
        told(x, "11: sixty", 0, 60, 60, 10);
        due.is("11: of itself no more", x.night(0), -12);
        due.is("11: by the first table no more", x.night(1), -12);
        due.is("11: by the last table no more", x.night(2), -12);
        due.is("11: no such table", x.night(3), -11);
        due.is("12: no more", x.nights(1), 0);
        Due.tray(x, 0, 1);
        due.is("15: why not", x.judge(0, 1), 2);
        due.is("16: no more", x.perform(0), 0);
        due.is("6: it is told all the same", x.picks(), 0);
        told(x, "11: nothing changed", 0, 60, 60, 10);
        Due.tray(x, 0, 19, 0, 0, 2);
        due.is("15: all may sleep", x.judge(0, 0), 3);
        due.is("16: all sleeps", x.perform(0), 3);
        told(x, "16: a moon, two nights", 9, 62, 60, 10);
        due.is("12: all sleeps on", x.nights(60), 60);
        due.is("11: all sleeps on", x.night(0), 1);
        due.is("11: but not by a table", x.night(1), -12);
        told(x, "11: sleeping", 9, 123, 60, 10);
        x.undo(3);
        told(x, "14: sixty again", 0, 60, 60, 7);
        due.is("11: no more", x.night(1), -12);
        x.undo(1);
        told(x, "14: fifty-nine", 0, 59, 59, 6);
        due.is("11: the sixtieth", x.night(2), 2);
        due.is("11: no more", x.night(2), -12);
        // Sleeping nights in between don't count.
        LetterNights y = Due.street("street tables 1 moon 0;sleeps : night < 3;");
        due.is("12: three sleeping ones", y.nights(60), 60);
        told(y, "12: fifty-seven", 0, 60, 57, 1);
        due.is("12: three more", y.nights(60), 3);
        told(y, "12: sixty", 0, 63, 60, 2);
    }

    private static void sixtyAheadOfTooLong() {
        LetterNights x = Due.street("street tables 2 moon 0;rule 1 a : aa;");
        for (int i = 0; i < 39; i++) {
            x.night(2);
        }
        due.is("11: too long", x.night(2), -13);
        x.nights(20);
        due.is("11: too long in the sixtieth", x.night(2), -13);
        x.nights(1);
        due.is("11: sixty ahead of too long", x.night(2), -12);
        Due.tray(x, 0, 2);
        due.is("15: sixty ahead of too long", x.judge(0, 1), 2);
        due.is("11: no such table ahead of both", x.night(3), -11);
        Due.tray(x, 0, 3);
        due.is("15: no such table ahead of both", x.judge(0, 1), 1);
    }

    private static void mostLetters() {
        LetterNights x = Due.longStreet(Due.MOST, "");
        due.is("7: the most", x.length(), Due.MOST);
        due.is("11: all stays, that isn't above", x.night(3), Due.MOST);
        due.is("11: doubled", x.night(1), -13);
        due.is("11: doubled", x.night(2), -13);
        due.is("12: none", x.nights(60), 0);
        Due.tray(x, 0, 3, 13, 3, 1, 3);
        due.is("15: the place", x.judge(0, 0), 3);
        due.is("15: why", x.judge(0, 1), 3);
        due.is("15: the rest by a million", x.judge(0, 2), 0);
        due.is("16: three", x.perform(0), 3);
        told(x, "16: that far", 3, 43, 43, 10);
        due.is("10: the last a", x.place(0, Due.MOST - 1), Due.MOST - 1);
        due.is("10: no more", x.place(0, Due.MOST), -1);
        due.is("8: the last letter", x.letter(Due.MOST - 1), 0);
        due.is("8: behind", x.letter(Due.MOST), -1);
        due.is("9: all a", x.count(0, Due.MOST), Due.MOST - 1);
        due.is("9: but one", x.count(0, Due.MOST - 1), Due.MOST - 2);
        due.is("9: all c", x.count(2, Due.MOST), 1);
        due.is("9: above", x.count(0, Due.MOST + 1), -3);
    }

    private static void tooLongByOne() {
        LetterNights x = Due.longStreet(Due.MOST, "rule 2 c : cb;");
        due.is("11: by one", x.night(3), -13);
        x.undo(1);
        due.is("11: by an a for c", x.night(1), Due.MOST - 1);
        due.is("11: to the most", x.night(3), Due.MOST);
        due.is("11: by one", x.night(3), -13);
        LetterNights y = Due.longStreet(Due.MOST / 2 + 1, "rule 2 c : nothing;");
        due.is("11: by one, doubled", y.night(1), -13);
        due.is("11: by two, doubled", y.night(2), -13);
        due.is("11: c is gone", y.night(3), Due.MOST / 2);
        due.is("11: just the most", y.night(1), Due.MOST);
        // Four for each of six letters: the greatest that a night could ask for.
        LetterNights z = Due.street("street tables 1 moon 0;stands abcdefabcdef;rule 0 a : bcde;rule 0 b : cdef;rule 0 c : defa;"
                + "rule 0 d : efab;rule 0 e : fabc;rule 0 f : abcd;");
        due.is("12: twelve times four to the 18th", z.nights(60), 18);
        due.is("7: so long", z.length(), 12L << 36);
        due.is("11: four times that", z.night(0), -13);
    }

    private static void oneNight() {
        String text = "street tables 2 moon 0;stands ab;rule 0 a : ba;rule 1 a : nothing;picks : moon;";
        long[] lengths = {3, 3, 1, -11, -11};
        for (int deed = -1; deed <= 20; deed++) {
            LetterNights x = Due.street(text);
            long answer = deed >= 0 && deed < lengths.length ? lengths[deed] : -11;
            due.is("11: the deed " + deed, x.night(deed), answer);
            told(x, "11: behind " + deed, 0, answer < 0 ? 0 : 1, answer < 0 ? 0 : 1, answer < 0 ? 0 : 1);
        }
        for (int tables = 1; tables <= 3; tables++) {
            LetterNights x = Due.street("street tables " + tables + " moon 0;");
            due.is("11: the last table", x.night(tables), 1);
            due.is("11: behind the last table", x.night(tables + 1), -11);
        }
    }

    private static void nightsOfThemselves() {
        for (int n : new int[] {1, 2, 59, 60}) {
            LetterNights x = new LetterNights();
            due.is("12: " + n, x.nights(n), n);
            told(x, "12: one call", 0, n, n, 1);
        }
        for (int n : new int[] {-1, 0, 61, 62}) {
            LetterNights x = new LetterNights();
            due.is("12: " + n, x.nights(n), -3);
            told(x, "12: none", 0, 0, 0, 0);
        }
        LetterNights x = Due.street("street tables 1 moon 0;rule 0 a : aaaa;");
        due.is("12: just so many as can be", x.nights(19), 19);
        due.is("12: then none", x.nights(60), 0);
        told(x, "12: none is no call to be undone", 0, 19, 19, 1);
        x.undo(1);
        due.is("12: one less than can be", x.nights(18), 18);
        due.is("12: one is left", x.nights(60), 1);
        told(x, "12: one is a call to be undone", 0, 19, 19, 2);
        LetterNights y = Due.street("street tables 1 moon 0;rule 0 a : nothing;");
        due.is("12: of nothing, too", y.nights(60), 60);
    }

    private static void moons() {
        LetterNights x = Due.street("street tables 1 moon 5;");
        due.is("13: the least", x.moon(0), 5);
        due.is("13: the most", x.moon(9), 0);
        due.is("13: above", x.moon(10), -11);
        due.is("13: below", x.moon(-1), -11);
        told(x, "13: two calls", 9, 0, 0, 2);
        due.is("13: the same", x.moon(9), 9);
        told(x, "13: all is as it was, but it counts", 9, 0, 0, 3);
        due.is("14: that one", x.undo(1), 2);
        due.is("42: moon", x.told(1), 9);
        due.is("14: the other two", x.undo(2), 0);
        due.is("42: moon", x.told(1), 5);
    }

    private static void whatIsUndone() {
        LetterNights x = Due.street("street tables 1 moon 4;rule 0 a : ab;sleeps : moon = 5;");
        x.night(0);
        told(x, "14: night()", 4, 1, 1, 1);
        x.moon(5);
        told(x, "14: moon()", 5, 1, 1, 2);
        x.night(0);
        told(x, "14: night() that sleeps, all is as it was", 5, 2, 1, 3);
        x.nights(1);
        told(x, "14: nights() of one thing", 5, 3, 1, 4);
        Due.tray(x, 0, 14);
        x.perform(0);
        told(x, "14: perform() of one thing", 4, 3, 1, 5);
        due.is("17: one thing: x is 12345, the draw 0", x.year(0, 1), 1);
        told(x, "14: year() of one thing", 4, 4, 2, 6);
        int[][] before = {{4, 3, 1}, {5, 3, 1}, {5, 2, 1}, {5, 1, 1}, {4, 1, 1}, {4, 0, 0}};
        for (int i = 0; i < before.length; i++) {
            due.is("14: one", x.undo(1), 5 - i);
            told(x, "14: back " + i, before[i][0], before[i][1], before[i][2], 5 - i);
            due.is("14: so many letters", x.length(), 1 + before[i][2]);
        }
        due.is("14: no more", x.undo(1), -3);
    }

    private static void whatIsNotUndone() {
        LetterNights x = Due.street("street tables 1 moon 4;rule 0 a : aa;");
        x.nights(39);
        x.moon(3);
        x.night(0);
        x.night(2);
        x.night(-1);
        x.moon(10);
        x.moon(-1);
        x.nights(3);
        x.nights(0);
        x.nights(61);
        x.year(0, 1);
        x.year(0, 21);
        x.perform(0);
        x.numbers(0, 0, 0);
        x.perform(0);
        x.numbers(0, 0, 1);
        x.perform(0);
        x.judge(0, 0);
        x.undo(3);
        x.image(0);
        x.feed(0, 0, 0, 0, 0);
        x.street(20);
        told(x, "14: two calls alone", 3, 39, 39, 2);
        due.is("14: as a whole", x.undo(2), 0);
        told(x, "14: undoing can't be undone", 4, 0, 0, 0);
        due.is("7: a", x.length(), 1);
        x.night(0);
        x.restore(0);
        told(x, "41: nothing can be undone behind", 3, 39, 39, 0);
        x.moon(1);
        due.is("3: a street", Texts.tell(x, "street tables 1 moon 4;"), 1);
        told(x, "3: nothing can be undone", 4, 0, 0, 0);
    }

    private static void tenAtMost() {
        LetterNights x = Due.street("street tables 1 moon 9;rule 0 a : ab;");
        for (int i = 1; i <= 10; i++) {
            due.is("11: night", x.night(0), 1 + i);
            due.is("14: so many", x.told(7), i);
        }
        due.is("14: eleven never can be", x.undo(11), -3);
        due.is("11: one more", x.night(0), 12);
        due.is("14: ten", x.told(7), 10);
        due.is("14: eleven can't be", x.undo(11), -3);
        due.is("14: ten can be", x.undo(10), 0);
        due.is("7: the eldest one was forgotten", x.length(), 2);
        due.is("14: it is", x.undo(1), -3);
        for (int i = 0; i < 35; i++) {
            x.night(0);
        }
        due.is("14: three", x.undo(3), 7);
        due.is("7: thirty-three", x.length(), 34);
        due.is("14: eight are too many", x.undo(8), -3);
        due.is("14: seven", x.undo(7), 0);
        due.is("7: twenty-six", x.length(), 27);
    }

    private static void eldestOfEachKind() {
        for (int kind = 0; kind < 5; kind++) {
            for (int more = 9; more <= 10; more++) {
                LetterNights x = Due.street("street tables 1 moon 9;rule 0 a : ab;");
                Due.tray(x, 0, 1, 12);
                long[] done = {kind == 0 ? x.night(0) : 0, kind == 1 ? x.nights(4) : 0, kind == 2 ? x.moon(7) : 0,
                    kind == 3 ? x.perform(0) : 0, kind == 4 ? x.year(0, 1) : 0};
                due.holds("14: the eldest is done", done[kind] > 0);
                long length = x.length();
                int moon = x.told(1);
                for (int i = 0; i < more; i++) {
                    x.moon(i % 9);
                }
                due.is("14: ten", x.undo(10), 0);
                due.is("14: the eldest of eleven is forgotten, of ten undone", x.length(), more == 9 ? 1 : length);
                due.is("14: its moon", x.told(1), more == 9 ? 9 : moon);
            }
        }
    }

    private static void undoneAnew() {
        LetterNights x = Due.street("street tables 3 moon 0;rule 0 a : ab;rule 1 a : ac;rule 2 a : nothing;rule 2 b : a;");
        x.night(1);
        x.night(1);
        x.undo(1);
        x.night(2);
        due.is("8: acb, the other way", x.letter(1), 2);
        due.is("8: acb, the first night stays", x.letter(2), 1);
        x.nights(3);
        x.night(3);
        due.is("7: of abbbcb", x.length(), 5);
        due.is("14: it was abbbcb", x.undo(1), 3);
        due.is("7: abbbcb", x.length(), 6);
        due.is("42: the last one", x.told(5), 1);
        due.is("42: kinds", x.told(6), 3);
        due.is("14: all", x.undo(3), 0);
        due.is("42: kinds", x.told(6), 1);
        due.is("7: a", x.length(), 1);
    }

    private static void judged() {
        LetterNights x = Due.street("street tables 2 moon 0;stands b;rule 0 b : bb;rule 1 b : nothing;");
        judge(x, "15: none", new long[0], -1, 0, 1, 1);
        judge(x, "15: one", new long[] {0}, -1, 0, 2, 1);
        judge(x, "15: nothing is left", new long[] {2}, -1, 0, 0, 6);
        judge(x, "15: the first one can't be", new long[] {3, 0}, 0, 1, 1, 1);
        judge(x, "15: the last one can't be", new long[] {0, 19, 1, 3}, 3, 1, 4, 1);
        judge(x, "15: two can't be: the first", new long[] {0, 9, 3}, 1, 1, 2, 1);
        long[] doubled = new long[20];
        java.util.Arrays.fill(doubled, 1);
        judge(x, "15: the rest of 1,048,576", doubled, -1, 0, 48_576, 1);
        judge(x, "15: of 524,288", java.util.Arrays.copyOf(doubled, 19), -1, 0, 524_288, 1);
        for (long length : new long[] {999_999, 1_000_000, 1_000_001, Due.MOST - 1, Due.MOST}) {
            LetterNights y = Due.longStreet(length, "");
            judge(y, "15: the rest of " + length, new long[] {3}, -1, 0, length % 1_000_000, 2);
            due.is("7: it is only judged", y.length(), length);
        }
    }

    private static void judge(LetterNights x, String what, long[] deeds, int place, int why, long rest, int letter) {
        Due.tray(x, 3, deeds);
        due.is(what + ", place", x.judge(3, 0), place);
        due.is(what + ", why", x.judge(3, 1), why);
        due.is(what + ", rest", x.judge(3, 2), rest);
        due.is(what + ", letter", x.judge(3, 3), letter);
    }

    private static void fortyDeeds() {
        long[] deeds = new long[40];
        java.util.Arrays.fill(deeds, 1);
        LetterNights x = Due.street("street tables 2 moon 0;rule 1 a : f;");
        judge(x, "15: forty", deeds, -1, 0, 1, 0);
        deeds[39] = 4;
        judge(x, "15: the fortieth can't be", deeds, 39, 1, 1, 0);
        due.is("16: thirty-nine", x.perform(3), 39);
        deeds[39] = 2;
        x.undo(1);
        judge(x, "15: the fortieth is done", deeds, -1, 0, 1, 5);
        due.is("16: forty", x.perform(3), 40);
        told(x, "16: forty", 0, 40, 40, 1);
        judge(x, "15: of forty more twenty", deeds, 20, 2, 1, 5);
        due.is("16: twenty", x.perform(3), 20);
        told(x, "16: sixty", 0, 60, 60, 2);
    }

    private static void deedsThatCanBe() {
        for (long deed = -3; deed <= 25; deed++) {
            LetterNights x = Due.street("street tables 2 moon 5;");
            boolean night = deed >= 0 && deed <= 2;
            boolean moon = deed >= 10 && deed <= 19;
            judge(x, "15: the deed " + deed, new long[] {deed}, night || moon ? -1 : 0, night || moon ? 0 : 1, 1, 0);
            due.is("16: the deed " + deed, x.perform(3), night || moon ? 1 : 0);
            told(x, "16: behind " + deed, moon ? (int) deed - 10 : 5, night ? 1 : 0, night ? 1 : 0, night || moon ? 1 : 0);
        }
        LetterNights x = Due.street("street tables 3 moon 5;rule 2 a : aa;");
        judge(x, "15: the third table", new long[] {3}, -1, 0, 2, 0);
        for (long far : new long[] {1L << 32, (1L << 32) + 1, (1L << 32) + 12, Long.MIN_VALUE, Long.MAX_VALUE}) {
            judge(x, "15: the deed " + far, new long[] {far}, 0, 1, 1, 0);
            due.is("16: the deed " + far, x.perform(3), 0);
        }
    }

    private static void performed() {
        LetterNights x = Due.street("street tables 1 moon 4;rule 0 a : aa;");
        x.numbers(0, 0, 0);
        due.is("16: of nothing", x.perform(0), 0);
        Due.tray(x, 1, 2, 1);
        due.is("16: the first one can't be", x.perform(1), 0);
        told(x, "16: no call to be undone", 4, 0, 0, 0);
        Due.tray(x, 1, 14);
        due.is("16: a moon as it was", x.perform(1), 1);
        told(x, "16: a call to be undone", 4, 0, 0, 1);
        Due.tray(x, 1, 1, 2, 1);
        due.is("16: till one can't be", x.perform(1), 1);
        told(x, "16: no deed behind it", 4, 1, 1, 2);
        due.is("14: as a whole", x.undo(2), 0);
        told(x, "14: as a whole", 4, 0, 0, 0);
    }

    /** A draw told in longs: x is kept from 0 to 2 to the 32nd, less 1. */
    private static long drawn(long x) {
        return (1103515245L * x + 12345L) % (1L << 32);
    }

    private static void years() {
        String text = "street tables 2 moon 0;rule 0 a : ab;rule 1 a : ba;rule 1 b : nothing;picks : moon + night;sleeps : moon = 4;";
        int[] seeds = {0, 1, -1, 2, 12345, -12345, 65535, 65536, Integer.MAX_VALUE, Integer.MIN_VALUE, Integer.MIN_VALUE + 1, 987654321};
        for (int seed : seeds) {
            for (int times : new int[] {1, 2, 19, 20}) {
                LetterNights x = Due.street(text);
                LetterNights y = Due.street(text);
                long draw = seed & 0xffffffffL;
                int done = 0;
                for (int i = 0; i < times; i++) {
                    draw = drawn(draw);
                    long kind = draw / 65536 % 5;
                    long deed = 0;
                    if (kind >= 2) {
                        draw = drawn(draw);
                        deed = kind == 4 ? 10 + draw / 65536 % 10 : draw / 65536 % 4;
                    }
                    Due.tray(y, 0, deed);
                    done += y.perform(0);
                }
                String what = "17: " + times + " times by " + seed;
                due.is(what, x.year(seed, times), done);
                told(x, what, y.told(1), y.told(2), y.told(3), done > 0 ? 1 : 0);
                due.is(what + ": length", x.length(), y.length());
                due.is(what + ": first letter", x.told(4), y.told(4));
                if (done > 0) {
                    due.is("14: as a whole", x.undo(1), 0);
                    told(x, "14: a year is undone", 0, 0, 0, 0);
                }
            }
        }
        for (int times : new int[] {-1, 0, 21}) {
            LetterNights x = new LetterNights();
            due.is("17: " + times + " times", x.year(1, times), -3);
            told(x, "17: none", 0, 0, 0, 0);
        }
    }

    /** With one table deeds that can't be come up often: the year goes on behind them. */
    private static void yearsThatGoOn() {
        int gaps = 0;
        for (int seed = 0; seed < 40; seed++) {
            LetterNights x = Due.street("street tables 1 moon 0;");
            int before = 0;
            for (int times = 1; times <= 20; times++) {
                int done = x.year(seed, times);
                due.holds("17: one time more", done == before || done == before + 1);
                gaps += done == before + 1 && before < times - 1 ? 1 : 0;
                before = done;
                if (done > 0) {
                    x.undo(1);
                }
            }
        }
        due.holds("17: some could be behind some that couldn't: " + gaps, gaps > 100);
    }

    private static void lastCall() {
        LetterNights x = Due.street("street tables 1 moon 0;sleeps : night < 900;picks : night;");
        // Three calls of feed() and one of street() have been made.
        for (int call = 5; call <= 510; call++) {
            due.is("11: call " + call, x.night(0), 1);
        }
        due.is("42: the 511th call", x.told(2), 506);
        due.is("42: the 512th call", x.told(7), 10);
    }
}
