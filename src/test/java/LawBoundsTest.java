/** The edges of laws (terms, promise 6): what is kept, what rests, what nothing is, and who sleeps. */
public final class LawBoundsTest {
    private static final String MOST = "(999 * 999 + 999 + 999 + 1)";
    private static final String LEAST = "(0 - " + MOST + ")";
    private static final Due due = new Due();

    public static void main(String[] args) {
        kept();
        rests();
        lengthsByTen();
        frontAndBack();
        nothingLeft();
        nights();
        moons();
        comparisons();
        choices();
        order();
        tables();
        sleeping();
        due.close("LawBoundsTest");
    }

    private static void holds(String truth, boolean so) {
        LetterNights x = Due.street("street tables 1 moon 5;sleeps : " + truth + ";");
        due.is("6: " + truth, x.picks(), so ? -1 : 0);
    }

    private static void same(String sum, String other) {
        holds(sum + " = " + other, true);
        holds(sum + " < " + other, false);
        holds(sum + " > " + other, false);
    }

    private static void kept() {
        same("999 * 999", "(998 * 999 + 999)");
        holds(MOST + " > 999 * 999 + 999 + 999", true);
        same(MOST + " - 1", "(999 * 999 + 999 + 999)");
        same(MOST + " + 1", MOST);
        same(MOST + " + 999 - 1", MOST + " - 1");
        same(MOST + " + " + MOST + " - " + MOST, "0");
        same("999 * 999 * 2", MOST);
        same("999 * 999 * 2 - 1", MOST + " - 1");
        same(MOST + " * 1", MOST);
        same(MOST + " * " + MOST, MOST);
        same(MOST + " * " + LEAST, LEAST);
        same(LEAST + " * " + LEAST, MOST);
        same(LEAST + " + 1 - 1", LEAST);
        holds(LEAST + " < " + LEAST + " + 1", true);
        same(LEAST + " - 1", LEAST);
        same(LEAST + " - 999 + 1", LEAST + " + 1");
        same(LEAST + " - " + MOST + " + " + MOST, "0");
        same("0 - 999 * 999 * 2 + 1", LEAST + " + 1");
        same("(0 - 999) * 999 * 2 + 1", LEAST + " + 1");
        same("(0 - 500) * 2 * 500 * 2", LEAST);
        same("500 * 2 * 500 * 2", MOST);
        same("500 * 2 * 500 * 2 * 999 * 999 * 0", "0");
        same("0 - " + LEAST, MOST);
        same("0 - " + LEAST + " + 1", MOST);
        // Each of them is kept, not the sum alone.
        same(MOST + " + (1 - 2)", MOST + " - 1");
        same(MOST + " + 1 + (0 - 1)", MOST + " - 1");
    }

    private static void picksOf(String sum, int one, int two, int three) {
        int[] picked = {one, two, three};
        for (int tables = 1; tables <= 3; tables++) {
            LetterNights x = Due.street("street tables " + tables + " moon 5;picks : " + sum + ";");
            due.is("6: by " + tables + " tables " + sum, x.picks(), picked[tables - 1]);
        }
    }

    private static void rests() {
        picksOf("0", 0, 0, 0);
        picksOf("1", 0, 1, 1);
        picksOf("2", 0, 0, 2);
        picksOf("3", 0, 1, 0);
        picksOf("999", 0, 1, 0);
        picksOf("0 - 1", 0, 1, 2);
        picksOf("0 - 2", 0, 0, 1);
        picksOf("0 - 3", 0, 1, 0);
        picksOf("0 - 4", 0, 0, 2);
        picksOf(MOST, 0, 0, 1);
        picksOf(LEAST, 0, 0, 2);
        picksOf(MOST + " - 1", 0, 1, 0);
        picksOf(LEAST + " + 1", 0, 1, 0);
    }

    private static void lengthsByTen() {
        for (int n = 1; n <= 12; n++) {
            LetterNights x = Due.street("street tables 1 moon 0;stands " + "abcdefabcdef".substring(0, n) + ";sleeps : rest = " + n % 10 + ";");
            due.is("6: the rest of " + n, x.picks(), -1);
        }
        for (long n : new long[] {99, 100, 101, 4_294_967_296L, Due.MOST - 1, Due.MOST}) {
            LetterNights x = Due.longStreet(n, "picks : rest;");
            due.is("6: the rest of " + n + " by three", x.picks(), n % 10 % 3);
        }
    }

    private static void frontAndBack() {
        for (int letter = 0; letter < 6; letter++) {
            char c = (char) ('a' + letter);
            LetterNights x = Due.street("street tables 3 moon 0;stands " + c + "ab;sleeps : front = " + letter + ";");
            due.is("6: front", x.picks(), -1);
            due.is("42: the first letter", x.told(4), letter);
            LetterNights y = Due.street("street tables 3 moon 0;stands ab" + c + ";sleeps : back = " + letter + ";");
            due.is("6: back", y.picks(), -1);
            due.is("42: the last letter", y.told(5), letter);
        }
        // The first two letters become nothing, the last two too: those between come to the edges.
        LetterNights x = Due.street("street tables 1 moon 0;stands abcdcba;rule 0 a : nothing;rule 0 b : nothing;rule 0 c : ef;rule 0 d : ddd;"
                + "sleeps : front = 4 and back = 5;");
        x.night(0);
        due.is("6: efdddef", x.picks(), -1);
        due.is("7: efdddef", x.length(), 7);
        // What stands at the edge becomes nothing night by night, so that what stood further in comes to it.
        LetterNights y = Due.street("street tables 2 moon 0;rule 0 a : bcd;rule 0 d : nothing;rule 1 b : nothing;rule 0 c : nothing;rule 0 b : fe;rule 1 c : ab;");
        y.night(1);
        due.is("42: bcd, first", y.told(4), 1);
        due.is("42: bcd, last", y.told(5), 3);
        y.image(0);
        y.night(1);
        due.is("42: fe, first", y.told(4), 5);
        due.is("42: fe, last", y.told(5), 4);
        y.restore(0);
        y.night(2);
        due.is("42: abd, first", y.told(4), 0);
        due.is("42: abd, last", y.told(5), 3);
        due.is("42: abd, kinds", y.told(6), 3);
        y.night(1);
        due.is("42: bcdfe, first", y.told(4), 1);
        due.is("42: bcdfe, last", y.told(5), 4);
        y.night(2);
        due.is("42: abdfe, first", y.told(4), 0);
    }

    private static void nothingLeft() {
        LetterNights x = Due.street("street tables 3 moon 0;stands ab;rule 0 a : nothing;rule 1 b : nothing;"
                + "sleeps : front = 6 and back = 6 and rest = 0 and moon = 1;picks : front;");
        x.night(1);
        due.is("6: b alone", x.picks(), 1);
        x.night(2);
        due.is("7: nothing", x.length(), 0);
        due.is("6: 6 by three tables", x.picks(), 0);
        due.is("42: 6", x.told(4), 6);
        due.is("42: 6", x.told(5), 6);
        due.is("11: nights go on", x.night(0), 0);
        due.is("11: by tables, too", x.night(3), 0);
        x.moon(1);
        due.is("6: it sleeps", x.picks(), -1);
    }

    private static void nights() {
        LetterNights x = Due.street("street tables 3 moon 0;picks : night;sleeps : night > 2 and moon = 1;");
        for (int night = 0; night < 3; night++) {
            due.is("6: night " + night, x.picks(), night % 3);
            x.night(1 + night);
        }
        due.is("6: behind three", x.picks(), 0);
        x.moon(1);
        due.is("6: a moon is no night", x.told(2), 3);
        x.night(0);
        x.nights(60);
        x.moon(2);
        due.is("6: sleeping nights are counted: 64", x.picks(), 1);
        due.is("14: the moon is undone", x.undo(1), 6);
        due.is("14: and the sixty", x.undo(1), 5);
        due.is("42: four", x.told(2), 4);
        x.moon(2);
        due.is("6: four", x.picks(), 1);
        LetterNights y = Due.street("street tables 1 moon 0;sleeps : night < 600 or 999 * 999 < night;");
        for (int i = 0; i < 10; i++) {
            y.nights(60);
        }
        due.is("42: all of them slept", y.told(3), 0);
        due.is("42: six hundred", y.told(2), 600);
        due.is("6: the first that doesn't sleep", y.picks(), 0);
        y.undo(1);
        due.is("42: 540", y.told(2), 540);
    }

    private static void moons() {
        for (int moon = 0; moon < 10; moon++) {
            LetterNights x = Due.street("street tables 1 moon " + moon + ";sleeps : moon = " + moon + ";");
            due.is("6: moon " + moon, x.picks(), -1);
            x.moon((moon + 1) % 10);
            due.is("6: another moon", x.picks(), 0);
            x.moon(moon);
            due.is("6: again", x.picks(), -1);
        }
    }

    private static void comparisons() {
        int[][] pairs = {{1, 2}, {2, 2}, {3, 2}, {0, 0}, {0, 999}, {999, 999}};
        for (int[] p : pairs) {
            holds(p[0] + " = " + p[1], p[0] == p[1]);
            holds(p[0] + " < " + p[1], p[0] < p[1]);
            holds(p[0] + " > " + p[1], p[0] > p[1]);
        }
        holds("0 - 1 < 0", true);
        holds("0 - 1 > 0", false);
        holds("0 - 2 < 0 - 1", true);
    }

    private static void choices() {
        same("if 1 = 1 then 3 else 4 end", "3");
        same("if 1 = 2 then 3 else 4 end", "4");
        same("if 1 = 1 then 3 else 4 end + 1", "4");
        same("2 * if 1 = 2 then 3 else 4 end * 3", "24");
        same("if 1 = 2 then 3 else if 1 = 1 then 5 else 6 end end", "5");
        same("if 1 = 1 then if 1 = 2 then 5 else 6 end else 7 end", "6");
        same("if not 1 = 1 or 1 = 1 then 1 + 1 else 2 * 3 end", "2");
        same("if 1 = 1 and 1 = 2 then 1 + 1 else 2 * 3 end", "6");
        same("if if 1 = 2 then 1 else 2 end = 2 then 8 else 9 end", "8");
        same("if 1 = 1 then 0 else 1 end", "0");
    }

    private static void order() {
        same("1 + 2 * 3", "7");
        same("2 * 3 + 1", "7");
        same("9 - 3 - 2", "4");
        same("9 - 3 + 2", "8");
        same("9 - (3 + 2)", "4");
        same("2 * 3 * 4 - 1", "23");
        same("(1 + 2) * (3 - 1)", "6");
        for (int bits = 0; bits < 8; bits++) {
            boolean a = (bits & 1) != 0;
            boolean b = (bits & 2) != 0;
            boolean c = (bits & 4) != 0;
            String p = (a ? 1 : 2) + " = 1";
            String q = (b ? 1 : 2) + " < 2";
            String r = (c ? 2 : 1) + " > 1";
            holds(p + " or " + q + " and " + r, a || b && c);
            holds(p + " and " + q + " or " + r, a && b || c);
            holds("[" + p + " or " + q + "] and " + r, (a || b) && c);
            holds(p + " and [" + q + " or " + r + "]", a && (b || c));
            holds("not " + p + " or " + q, !a || b);
            holds("not " + p + " and " + q, !a && b);
            holds("not [" + p + " and " + q + "] and " + r, !(a && b) && c);
            holds(p + " or " + q + " or " + r, a || b || c);
            holds(p + " and " + q + " and " + r, a && b && c);
            holds(p + " and not not " + q, a && b);
            holds("not not not " + p, !a);
        }
    }

    private static void tables() {
        LetterNights x = Due.street("street tables 3 moon 2;rule 0 a : b;rule 1 a : c;rule 2 a : d;picks : moon;");
        due.is("6: the last table", x.picks(), 2);
        x.night(0);
        due.is("11: by the last table", x.letter(0), 3);
        LetterNights y = Due.street("street tables 3 moon 2;rule 0 a : b;rule 1 a : c;rule 2 a : d;");
        due.is("6: without picks", y.picks(), 0);
        y.night(0);
        due.is("11: by the first table", y.letter(0), 1);
    }

    private static void sleeping() {
        LetterNights x = Due.street("street tables 2 moon 0;rule 0 a : aa;rule 1 a : aaa;sleeps : moon = 1;picks : 1;");
        x.moon(1);
        due.is("6: all sleeps", x.picks(), -1);
        due.is("11: all stays", x.night(0), 1);
        due.is("42: a night", x.told(2), 1);
        due.is("42: in which all slept", x.told(3), 0);
        due.is("11: by a told table nothing sleeps", x.night(1), 2);
        due.is("42: not slept", x.told(3), 1);
        x.moon(0);
        due.is("6: awake", x.picks(), 1);
        due.is("11: awake", x.night(0), 6);
        due.is("42: nights", x.told(2), 3);
        due.is("42: awake", x.told(3), 2);
        LetterNights never = Due.street("street tables 1 moon 0;rule 0 a : aa;");
        due.is("6: without a law it never sleeps", never.picks(), 0);
        due.is("11: it doesn't", never.night(0), 2);
    }
}
