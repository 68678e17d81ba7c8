/** Promises 1 to 10: a new object, texts and their faults, what stands where. */
public final class StreetTest {
    private static final String HEAD = "street tables 2 moon 3;";
    private static final Due due = new Due();

    public static void main(String[] args) {
        newObject();
        tape();
        streets();
        faults();
        cutTexts();
        laterLines();
        tokens();
        becomes();
        picks();
        sums();
        truths();
        lengths();
        places();
        due.close("StreetTest");
    }

    private static void newObject() {
        LetterNights x = new LetterNights();
        int[] told = {1, 0, 0, 0, 0, 0, 1, 0, 0, 0, -1};
        for (int what = 0; what < told.length; what++) {
            due.is("1: told(" + what + ")", x.told(what), told[what]);
        }
        due.is("1: length", x.length(), 1);
        due.is("1: letter", x.letter(0), 0);
        due.is("1: fault", x.fault(0), 0);
        due.is("1: fault's place", x.fault(1), -1);
        for (int letter = 0; letter < 6; letter++) {
            due.is("1: becomes itself", x.becomes(0, letter, 0), letter);
            due.is("1: becomes one", x.becomes(0, letter, -1), 1);
        }
        for (int tray = 0; tray < 4; tray++) {
            due.is("1: no tray", x.perform(tray), -6);
        }
        due.is("1: no image", x.restore(0), -5);
        due.is("1: no image", x.restore(1), -5);
        due.is("1: nothing to undo", x.undo(1), -3);
    }

    private static void tape() {
        LetterNights x = new LetterNights();
        for (int i = 1; i <= 45; i++) {
            due.is("2: feed", x.feed(0x20202020, 0x20202020, 0x20202020, 0x20202020, 0x20202020), 20 * i);
        }
        due.is("2: too much", x.feed(0, 0, 0, 0, 0), -5);
        due.is("2: the tape stays", x.told(8), 900);
        due.is("2: blanks alone", x.street(900), -32);
        due.is("2: their end", x.fault(1), 900);
        due.is("2: the highest byte first", x.feed(0x7a796178, 0x7a7a7a7a, 0, 0, 0), 20);
        due.is("2: words", x.street(5), -32);
        due.is("2: a text of zeros", x.feed(0x00737472, 0, 0, 0, 0), 20);
        due.is("2: its first byte is the highest", x.street(20), -31);
        due.is("2: at", x.fault(1), 0);
        due.is("2: minus one is 255", x.feed(0x20202020, -1, 0, 0, 0), 20);
        due.is("2: no token", x.street(20), -31);
        due.is("2: at", x.fault(1), 4);
    }

    private static void streets() {
        LetterNights x = new LetterNights();
        due.is("3: above the tape", x.street(1), -3);
        x.feed(0x20202020, 0x20202020, 0x20202020, 0x20202020, 0x20202020);
        due.is("3: above the tape", x.street(21), -3);
        due.is("3: below 0", x.street(-1), -3);
        due.is("3: the tape stays", x.told(8), 20);
        due.is("3: it wasn't read", x.fault(0), 0);
        due.is("3: nothing of it", x.street(0), -32);
        due.is("3: its end", x.fault(1), 0);
        due.is("3: the tape is empty", x.told(8), 0);

        due.is("3: lines", Texts.tell(x, HEAD + "stands abc;rule 0 a : bb;"), 3);
        due.is("3: told(9)", x.told(9), 3);
        due.is("3: no fault", x.fault(0), 0);
        due.is("3: no fault's place", x.fault(1), -1);
        x.night(0);
        x.moon(5);
        due.is("3: a fault", Texts.tell(x, HEAD + "stands z;"), -32);
        due.is("3: the lines stay", x.told(9), 3);
        due.is("3: the letters stay", x.length(), 4);
        due.is("3: the nights stay", x.told(2), 1);
        due.is("3: the moon stays", x.told(1), 5);
        due.is("3: what can be undone stays", x.told(7), 2);
        due.is("3: the tape is empty", x.told(8), 0);
        due.is("3: anew", Texts.tell(x, "street tables 1 moon 7;"), 1);
        due.is("3: tables", x.told(0), 1);
        due.is("3: moon", x.told(1), 7);
        due.is("3: nights", x.told(2), 0);
        due.is("3: nights awake", x.told(3), 0);
        due.is("3: the letter a", x.told(4), 0);
        due.is("3: nothing to undo", x.told(7), 0);
        due.is("3: the rule is gone", x.becomes(0, 0, -1), 1);
    }

    private static void fault(String text, int fault, int place) {
        LetterNights x = new LetterNights();
        due.is("4: street of " + text, Texts.tell(x, text), -30 - fault);
        due.is("4: fault of " + text, x.fault(0), fault);
        due.is("4: fault's place of " + text, x.fault(1), place);
        due.is("4: fault(2)", x.fault(2), -1);
        due.is("4: fault(-1)", x.fault(-1), -1);
    }

    private static void faults() {
        int head = HEAD.length();
        fault(HEAD + "!", 1, head);
        fault(HEAD + "Stands a;", 1, head);
        fault(HEAD + "stands\ta;", 1, head + 6);
        fault(HEAD + "rule 0001 a : a;", 1, head + 5);
        fault(HEAD + "stands 1000;", 1, head + 7);
        fault(HEAD + "stands 999;", 2, head + 7);
        fault(HEAD + "stands a b;", 2, head + 9);
        fault(HEAD + "stands nothing;", 2, head + 7);
        fault(HEAD + "stands a", 2, head + 8);
        fault(HEAD + "stands a  ", 2, head + 10);
        fault(HEAD + "stands abcdefabcdefa;", 3, head + 7);
        fault(HEAD + "stands abcdefabcdefg;", 2, head + 7);
        fault(HEAD + "rule 2 a : a;", 3, head + 5);
        fault(HEAD + "rule a a : a;", 2, head + 5);
        fault(HEAD + "rule 0 1 : a;", 2, head + 7);
        fault(HEAD + "rule 0 aa : a;", 3, head + 7);
        fault(HEAD + "rule 0 a : aaaaa;", 3, head + 11);
        fault(HEAD + "rule 0 a : nothings;", 2, head + 11);
        fault(HEAD + "rule 0 a : nothing nothing;", 2, head + 19);
        fault(HEAD + HEAD, 2, head);
        fault(HEAD + ";", 2, head);
        fault("street tables 4 moon 10;", 3, 14);
        fault("street tables 3 moon 10;", 3, 21);
        fault("street tables x moon 1;", 2, 14);
        fault("street moon 1 tables 1;", 2, 7);
        fault("", 2, 0);
        fault(HEAD + "picks 1;", 2, head + 6);
        fault(HEAD + "picks : 1 = 1;", 2, head + 10);
        fault(HEAD + "picks : - 1;", 2, head + 8);
        fault(HEAD + "picks : 1 + ;", 2, head + 12);
        fault(HEAD + "picks : 1 2;", 2, head + 10);
        fault(HEAD + "picks : [1 = 1];", 2, head + 8);
        fault(HEAD + "picks : if [1] = 1 then 1 else 1 end;", 2, head + 13);
        fault(HEAD + "picks : if 1 = 1 then 1 end;", 2, head + 24);
        fault(HEAD + "sleeps : 1 = 1 = 1;", 2, head + 15);
        fault(HEAD + "sleeps : not;", 2, head + 12);
        fault(HEAD + "sleeps : (1 = 1);", 2, head + 12);
        fault(HEAD + "sleeps : 1 = 1 or;", 2, head + 17);
        fault(HEAD + "sleeps : 1 = 1 nor 1 = 1;", 2, head + 15);
        fault(HEAD + "sleeps : [[[[[[[1=1]]]]]]];", 4, head + 15);
        fault(HEAD + "sleeps : not [not (if not 1 = 1 then (1) else (2) end) = (if 1 = 1 then ((1)) else 2 end)];",
                4, head + 73);
        fault(HEAD + "picks : ((((((1 @", 1, head + 16);
        fault(HEAD + "picks : ((((((@", 1, head + 14);
        fault(HEAD + "picks : ((((((" + (char) 233, 1, head + 14);
        fault(HEAD + "picks : (((((( not", 2, head + 15);
        fault(HEAD + "ztands a;", 2, head);
        fault(HEAD + "picks : nest;", 2, head + 8);
        fault(HEAD + "picks : resu;", 2, head + 8);
        fault(HEAD + "picks : res;", 2, head + 8);
        fault(HEAD + "picks : rests;", 2, head + 8);
        good(HEAD + "picks : ((((((1))))));", 2);
        good(HEAD + "sleeps : not not not not not not 1 = 1;", 2);
        good(HEAD + "picks : (1) + (((((2))))) * ((((((3))))));", 2);
    }

    private static void good(String text, int lines) {
        due.is("3: street of " + text, Texts.tell(new LetterNights(), text), lines);
    }

    /** Only the first n bytes are the text, whatever stands on the tape behind them. */
    private static void cutTexts() {
        String whole = HEAD + "stands abg;";
        for (int n = 0; n < whole.length() - 1; n++) {
            LetterNights x = new LetterNights();
            for (int from = 0; from < whole.length(); from += 20) {
                int[] f = Texts.fed(whole, from);
                x.feed(f[0], f[1], f[2], f[3], f[4]);
            }
            boolean lineEnds = n == HEAD.length();
            boolean word = n > HEAD.length() && n < HEAD.length() + 6;
            boolean headWord = n > 0 && n < 6 || n > 7 && n < 13 || n > 16 && n < 20;
            int place = headWord ? (n < 6 ? 0 : n < 13 ? 7 : 16) : word ? HEAD.length() : n == whole.length() - 1 ? 30 : n;
            due.is("3: the first " + n, x.street(n), lineEnds ? 1 : -32);
            due.is("4: the place in the first " + n, x.fault(1), lineEnds ? -1 : place);
        }
        StringBuilder full = new StringBuilder(HEAD);
        while (full.length() < 898) {
            full.append(full.length() % 2 == 0 ? ' ' : '\n');
        }
        fault(full + "st", 2, 898);
        fault(full + " 7", 2, 899);
        fault(full + " ;", 2, 899);
        fault(full + "10", 2, 898);
        good(full + "  ", 1);
    }

    private static void laterLines() {
        LetterNights x = Due.street(HEAD + "stands a; stands bcd; rule 0 b : nothing; rule 0 b : ee; rule 1 b : cccc; rule 1 b : nothing;"
                + "picks : 1; sleeps : 1 = 1; picks : 0; sleeps : 1 = 2;");
        due.is("3: lines", x.told(9), 11);
        due.is("3: the later stands", x.length(), 3);
        due.is("3: the later rule", x.becomes(0, 1, -1), 2);
        due.is("3: the later rule", x.becomes(1, 1, -1), 0);
        due.is("3: the later laws", x.picks(), 0);
    }

    private static void tokens() {
        LetterNights x = Due.street("street\ntables2moon3;stands  ef ;rule\n1e:nothing;rule 001 f:abc;picks:1+1*1;sleeps:1=2;");
        due.is("3: tables", x.told(0), 2);
        due.is("3: moon", x.told(1), 3);
        due.is("3: lines", x.told(9), 6);
        due.is("3: first", x.told(4), 4);
        due.is("3: last", x.told(5), 5);
        due.is("3: nothing", x.becomes(1, 4, -1), 0);
        due.is("3: 001", x.becomes(1, 5, 2), 2);
    }

    private static void becomes() {
        LetterNights x = Due.street(HEAD + "rule 1 c : fedc;");
        int[] children = {5, 4, 3, 2};
        for (int i = 0; i < 4; i++) {
            due.is("5: child " + i, x.becomes(1, 2, i), children[i]);
        }
        due.is("5: no fifth", x.becomes(1, 2, 4), -1);
        due.is("5: many", x.becomes(1, 2, -1), 4);
        due.is("5: below NONE", x.becomes(1, 2, -2), -3);
        due.is("5: no table", x.becomes(2, 2, -2), -2);
        due.is("5: no table", x.becomes(-1, 2, 0), -2);
        due.is("5: no letter", x.becomes(0, 6, 0), -2);
        due.is("5: no letter", x.becomes(0, -1, 0), -2);
        due.is("5: itself", x.becomes(0, 2, 0), 2);
        due.is("5: far on", x.becomes(0, 2, Integer.MAX_VALUE), -1);
    }

    private static void picks() {
        LetterNights x = Due.street("street tables 3 moon 4;stands af;picks : front - back - moon;");
        due.is("6: 0 - 5 - 4 is -9", x.picks(), 0);
        x.moon(3);
        due.is("6: -8", x.picks(), 1);
        x.moon(2);
        due.is("6: -7", x.picks(), 2);
        LetterNights y = Due.street("street tables 3 moon 4;picks : night;sleeps : night = 2;");
        due.is("6: night 0", y.picks(), 0);
        y.night(0);
        due.is("6: night 1", y.picks(), 1);
        y.night(0);
        due.is("6: all sleeps", y.picks(), -1);
        y.night(0);
        due.is("6: sleeping nights count", y.told(2), 3);
        due.is("6: night 3", y.picks(), 0);
        LetterNights empty = Due.street("street tables 3 moon 0;rule 0 a : nothing;picks : front + back * 2 + rest;sleeps : rest > 0 and night > 0;");
        due.is("6: 0 + 0 + 1", empty.picks(), 1);
        empty.night(1);
        due.is("6: nothing is left: 6 + 12 + 0", empty.picks(), 0);
    }

    private static void sum(String sum, int due3) {
        LetterNights x = Due.street("street tables 3 moon 5;stands abcdefabcdef;picks : " + sum + ";");
        due.is("6: " + sum, x.picks(), due3);
    }

    private static void sums() {
        sum("1 + 1 * 4", 2);
        sum("(1 + 1) * 5", 1);
        sum("7 - 3 - 2", 2);
        sum("7 - (3 - 2)", 0);
        sum("0 - 1", 2);
        sum("0 - 2", 1);
        sum("0 - 3", 0);
        // 1,000,000 is 1 modulo 3; more is kept there.
        sum("999 * 999 + 999 + 999 + 1", 1);
        sum("999 * 999 + 999 + 999 + 2", 1);
        sum("999 * 999 * 999", 1);
        sum("999 * 999 * 999 - 1", 0);
        sum("0 - 999 * 999 * 999", 2);
        sum("0 - 999 * 999 * 999 - 5", 2);
        sum("(0 - 999) * 999 * 999 + 1", 0);
        sum("999 * 999 * 999 * 999 * 0 + 2", 2);
        sum("rest", 2);
        sum("front", 0);
        sum("back", 2);
        sum("moon", 2);
        sum("night", 0);
        sum("if 1 = 1 then 2 else 1 end", 2);
        sum("if 1 > 1 then 2 else 1 end", 1);
        sum("if 1 = 1 then 2 else 1 end + if 1 < 0 then 2 else 2 end", 1);
        sum("if if 1 = 1 then 3 else 4 end = 3 then if 2 = 3 then 0 else 1 end else 2 end", 1);
    }

    private static void truth(String truth, boolean holds) {
        LetterNights x = Due.street("street tables 1 moon 5;sleeps : " + truth + ";");
        due.is("6: " + truth, x.picks(), holds ? -1 : 0);
    }

    private static void truths() {
        truth("1 = 1", true);
        truth("1 = 2", false);
        truth("1 < 2", true);
        truth("2 < 2", false);
        truth("3 > 2", true);
        truth("2 > 2", false);
        truth("1 = 1 or 1 = 1 and 1 = 2", true);
        truth("[1 = 1 or 1 = 1] and 1 = 2", false);
        truth("not 1 = 1 or 1 = 1", true);
        truth("not [1 = 1 or 1 = 1]", false);
        truth("not not 1 = 1", true);
        truth("1 = 2 or 1 = 2 or 1 = 1", true);
        truth("1 = 1 and 1 = 1 and 1 = 2", false);
        truth("1 + 1 = 2 * 1", true);
        truth("(1) + 1 > 3 - 2", true);
        truth("0 - 1 < 0", true);
        String deep = "1";
        String deepElse = "2";
        for (int i = 0; i < 6; i++) {
            deep = "if 1 = 2 or 1 = 1 and 0 < 1 + 1 * " + deep + " then 1 else 0 end";
            deepElse = "if 1 = 2 then 1 else 0 + 1 * " + deepElse + " end";
        }
        truth("1 = 2 or 1 = 1 and 0 < 1 + 1 * " + deep, true);
        truth("1 = 2 or 1 = 1 and 2 = 0 + 1 * " + deepElse, true);
    }

    private static void lengths() {
        LetterNights x = Due.street("street tables 1 moon 0;stands abcdefabcdef;rule 0 a : nothing;");
        due.is("7: length", x.length(), 12);
        x.night(0);
        due.is("7: length", x.length(), 10);
        LetterNights y = Due.street("street tables 1 moon 0;rule 0 a : nothing;");
        y.night(0);
        due.is("7: nothing", y.length(), 0);
        due.is("8: nothing", y.letter(0), -1);
        due.is("9: nothing", y.count(0, 0), 0);
        due.is("9: nothing", y.count(0, 1), -3);
        due.is("10: nothing", y.place(0, 1), -1);
    }

    private static void places() {
        // abaababa ... : Fibonacci's word.
        LetterNights x = Due.street("street tables 1 moon 0;rule 0 a : ab;rule 0 b : a;");
        x.nights(55);
        long[] fibonacci = new long[60];
        fibonacci[0] = 1;
        fibonacci[1] = 2;
        for (int i = 2; i < 60; i++) {
            fibonacci[i] = fibonacci[i - 1] + fibonacci[i - 2];
        }
        long all = fibonacci[55];
        due.is("7: length", x.length(), all);
        due.is("9: all a", x.count(0, all), fibonacci[54]);
        due.is("9: all b", x.count(1, all), fibonacci[53]);
        due.is("9: none of c", x.count(2, all), 0);
        due.is("9: behind the end", x.count(0, all + 1), -3);
        due.is("9: below 0", x.count(0, -1), -3);
        due.is("9: no letter ahead of no place", x.count(6, -1), -2);
        due.is("9: no letter", x.count(-1, 0), -2);
        due.is("8: below 0", x.letter(-1), -3);
        due.is("8: the end", x.letter(all), -1);
        due.is("8: far behind", x.letter(Long.MAX_VALUE), -1);
        due.is("8: far ahead", x.letter(Long.MIN_VALUE), -3);
        due.is("10: not so many", x.place(1, fibonacci[53] + 1), -1);
        due.is("10: none", x.place(2, 1), -1);
        due.is("10: no letter", x.place(6, 0), -2);
        due.is("10: below 1", x.place(0, 0), -3);
        due.is("10: far on", x.place(0, Long.MAX_VALUE), -1);
        long place = 12345;
        for (int i = 0; i < 60; i++) {
            place = (place * 48271 + 11) % all;
            int letter = zeckendorfEndsInOne(place, fibonacci) ? 1 : 0;
            due.is("8: letter " + place, x.letter(place), letter);
            long ahead = x.count(letter, place);
            due.is("9: both ahead of " + place, x.count(0, place) + x.count(1, place), place);
            due.is("9: one more behind " + place, x.count(letter, place + 1), ahead + 1);
            due.is("10: place " + place, x.place(letter, ahead + 1), place);
        }
    }

    /** Fibonacci's word has b just where the place, told as a sum of Fibonacci's numbers, needs a 1. */
    private static boolean zeckendorfEndsInOne(long place, long[] fibonacci) {
        long rest = place;
        for (int i = fibonacci.length - 1; i > 0; i--) {
            if (rest >= fibonacci[i]) {
                rest -= fibonacci[i];
            }
        }
        return rest == 1;
    }
}
