/** The edges of trays, images and what is told (promises 37 to 42). */
public final class TraysBoundsTest {
    private static final Due due = new Due();

    public static void main(String[] args) {
        missing();
        sizes();
        sorts();
        cuts();
        laidAnew();
        traysApart();
        images();
        imagesOfAll();
        imagesAndUndoing();
        imagesStay();
        toldOfOthers();
        toldKinds();
        due.close("TraysBoundsTest");
    }

    private static void missing() {
        LetterNights x = new LetterNights();
        for (int tray = -1; tray <= 4; tray++) {
            int code = tray < 0 || tray > 3 ? -2 : -6;
            due.is("37: tray " + tray + " at first", x.write(tray, 0, 1), code);
            due.is("16: tray " + tray + " at first", x.perform(tray), code);
            due.is("15: tray " + tray + " at first", x.judge(tray, 3), code);
            due.is("39: tray " + tray + " at first", x.lists(tray, 0), code);
            due.is("18: tray " + tray + " at first", x.occurs(tray), code);
            due.is("31: tray " + tray + " at first", x.moons(tray), code);
        }
        for (int tray = -1; tray <= 4; tray++) {
            due.is("37: tray " + tray, x.numbers(tray, 3, 0), tray < 0 || tray > 3 ? -2 : 0);
            due.is("38: no number of tray " + tray, x.write(tray, 0, 1), tray < 0 || tray > 3 ? -2 : -7);
        }
    }

    private static void sizes() {
        for (int n : new int[] {0, 1, 2, 39, 40}) {
            LetterNights x = new LetterNights();
            due.is("37: " + n, x.numbers(1, 3, n), 0);
            for (int i = 0; i < n; i++) {
                due.is("38: number " + i, x.write(1, i, 1), 1);
            }
            due.is("38: behind the last", x.write(1, n, 1), -7);
            due.is("38: ahead of the first", x.write(1, -1, 1), -7);
            due.is("38: far behind", x.write(1, Integer.MAX_VALUE, 1), -7);
            due.is("38: far ahead", x.write(1, Integer.MIN_VALUE, 1), -7);
            due.is("15: all of them are deeds", x.judge(1, 0), -1);
            due.is("16: so many", x.perform(1), n);
        }
        LetterNights x = new LetterNights();
        x.numbers(1, 3, 2);
        for (int n : new int[] {-1, 41, 42}) {
            due.is("37: " + n, x.numbers(1, 0, n), -3);
        }
        due.is("37: it stays as long", x.write(1, 2, 1), -7);
        due.is("37: and of 64 bits", x.write(1, 1, 1L << 62), 1L << 62);
        due.is("37: the first is 0 still", x.judge(1, 0), 1);
    }

    private static void sorts() {
        LetterNights x = new LetterNights();
        for (int sort = -1; sort <= 4; sort++) {
            due.is("37: the sort " + sort, x.numbers(0, sort, 1), sort < 0 || sort > 3 ? -2 : 0);
        }
        due.is("37: the last that could be", x.write(0, 0, Long.MAX_VALUE), Long.MAX_VALUE);
    }

    private static void cuts() {
        LetterNights x = new LetterNights();
        for (int sort = 0; sort < 4; sort++) {
            x.numbers(sort, sort, 40);
            int bits = 8 << sort;
            long top = 1L << bits - 1;
            long[] same = {0, 1, -1, top - 1, -top, top / 2};
            for (long v : same) {
                due.is("38: of " + bits + " bits", x.write(sort, 39, v), v);
            }
            if (sort < 3) {
                due.is("38: one above", x.write(sort, 0, top), -top);
                due.is("38: one below", x.write(sort, 0, -top - 1), top - 1);
                due.is("38: all its bits", x.write(sort, 0, 2 * top - 1), -1);
                due.is("38: a bit more", x.write(sort, 0, 2 * top), 0);
                due.is("38: a bit more and 1", x.write(sort, 0, 2 * top + 1), 1);
                due.is("38: all bits but the highest", x.write(sort, 0, Long.MAX_VALUE), -1);
                due.is("38: the highest bit", x.write(sort, 0, Long.MIN_VALUE), 0);
            }
        }
    }

    private static void laidAnew() {
        LetterNights x = Due.street("street tables 2 moon 0;rule 1 a : aa;");
        Due.tray(x, 0, 2, 2, 2);
        due.is("16: three", x.perform(0), 3);
        due.is("37: anew", x.numbers(0, 3, 3), 0);
        due.is("16: all 0", x.perform(0), 3);
        due.is("7: by the first table", x.length(), 8);
        due.is("37: shorter", x.numbers(0, 0, 1), 0);
        due.is("38: one alone", x.write(0, 1, 1), -7);
        due.is("37: longer", x.numbers(0, 1, 40), 0);
        due.is("16: all 0", x.perform(0), 40);
        due.is("38: of another sort", x.write(0, 0, 1 << 15), -32768);
        due.is("37: with none", x.numbers(0, 1, 0), 0);
        due.is("16: it isn't missing", x.perform(0), 0);
    }

    private static void traysApart() {
        LetterNights x = Due.street("street tables 1 moon 0;stands abcdef;");
        for (int tray = 0; tray < 4; tray++) {
            Due.tray(x, tray, tray, tray + 1);
        }
        for (int tray = 0; tray < 4; tray++) {
            due.is("19: tray " + tray, x.first(tray), tray);
        }
        x.numbers(2, 0, 1);
        x.write(1, 0, 5);
        due.is("19: tray 0 stays", x.first(0), 0);
        due.is("19: tray 1 is another", x.first(1), -1);
        due.is("19: tray 2 is a", x.first(2), 0);
        due.is("19: tray 3 stays", x.first(3), 3);
    }

    private static void images() {
        for (int i = -1; i <= 2; i++) {
            LetterNights x = new LetterNights();
            boolean can = i == 0 || i == 1;
            due.is("41: " + i + " at first", x.restore(i), can ? -5 : -2);
            due.is("40: " + i, x.image(i), can ? 0 : -2);
            due.is("41: " + i, x.restore(i), can ? 0 : -2);
            due.is("41: the other one", x.restore(1 - i), i == 0 || i == 1 ? -5 : -2);
        }
    }

    private static void imagesOfAll() {
        LetterNights x = Due.street("street tables 3 moon 4;stands abc;rule 0 a : nothing;rule 1 a : ef;rule 2 c : cb;picks : 2;sleeps : moon = 5;");
        x.night(2);
        x.moon(5);
        x.night(0);
        x.image(1);
        int[] told = {3, 5, 2, 1, 4, 2, 4, 0, 0, 7};
        Texts.tell(x, "street tables 1 moon 9;");
        x.nights(60);
        due.is("41: as it was", x.restore(1), 0);
        for (int what = 0; what < told.length; what++) {
            due.is("41: told(" + what + ")", x.told(what), told[what]);
        }
        due.is("41: letters", x.letter(1), 5);
        due.is("41: rules", x.becomes(1, 0, 1), 5);
        due.is("41: nothing", x.becomes(0, 0, -1), 0);
        due.is("41: all sleeps", x.picks(), -1);
        x.moon(0);
        due.is("41: the other law", x.picks(), 2);
        due.is("11: efbcb", x.night(0), 5);
        due.is("10: the second b", x.place(1, 2), 4);
        x.nights(60);
        due.is("41: fifty-nine nights could be", x.told(3), 60);
        // A new object's image: without a text.
        LetterNights none = new LetterNights();
        none.image(0);
        Texts.tell(none, "street tables 3 moon 9;stands f;");
        none.restore(0);
        due.is("41: one table", none.told(0), 1);
        due.is("41: no lines", none.told(9), 0);
        due.is("41: the letter a", none.told(4), 0);
        due.is("41: moon 0", none.told(1), 0);
    }

    private static void imagesAndUndoing() {
        LetterNights x = Due.street("street tables 1 moon 0;rule 0 a : ab;");
        x.nights(3);
        x.moon(2);
        x.image(0);
        due.is("14: behind image() it can be undone", x.told(7), 2);
        due.is("14: one", x.undo(1), 1);
        due.is("41: restored", x.restore(0), 0);
        due.is("41: nothing can be undone behind", x.told(7), 0);
        due.is("14: not that either", x.undo(1), -3);
        due.is("42: the moon of the image", x.told(1), 2);
        x.night(0);
        due.is("14: what comes behind can be", x.undo(1), 0);
        due.is("7: as in the image", x.length(), 4);
        x.undo(1);
        due.is("42: three nights", x.told(2), 3);
    }

    private static void imagesStay() {
        LetterNights x = Due.street("street tables 2 moon 0;rule 0 a : ab;rule 1 b : c;");
        x.nights(2);
        x.image(0);
        x.image(1);
        x.night(2);
        x.moon(7);
        for (int i = 0; i < 3; i++) {
            x.restore(0);
            due.is("41: abb as often as it is restored", x.letter(2), 1);
            due.is("41: moon", x.told(1), 0);
            due.is("41: nights", x.told(2), 2);
            x.night(2);
            x.moon(8);
            due.is("8: acc", x.letter(2), 2);
        }
        due.is("40: in place of the former", x.image(0), 0);
        x.night(1);
        x.restore(0);
        due.is("41: the latter", x.letter(2), 2);
        due.is("41: its moon", x.told(1), 8);
        x.restore(1);
        due.is("41: the other one is the former", x.letter(2), 1);
        // Trays, the tape and the fault are no street.
        Due.tray(x, 0, 0);
        Texts.tell(x, "!");
        x.feed(0, 0, 0, 0, 0);
        x.restore(1);
        due.is("41: the tray stays", x.occurs(0), 1);
        due.is("41: the tape stays", x.told(8), 20);
        due.is("41: the fault stays", x.fault(0), 1);
    }

    private static void toldOfOthers() {
        LetterNights x = Due.street("street tables 2 moon 7;stands fab;");
        int[] told = {2, 7, 0, 0, 5, 1, 3, 0, 0, 2};
        for (int what = -2; what <= 12; what++) {
            due.is("42: told(" + what + ")", x.told(what), what >= 0 && what < 10 ? told[what] : -1);
        }
        due.is("42: far on", x.told(Integer.MAX_VALUE), -1);
        due.is("42: far below", x.told(Integer.MIN_VALUE), -1);
    }

    private static void toldKinds() {
        String[] streets = {"a", "aa", "ffffffffffff", "aba", "bab", "abab", "aabbcc", "ccbbaa", "fefefefefefe", "abcdefabcdef", "edcbabcdeabc"};
        int[] kindsOf = {1, 1, 1, 2, 2, 2, 3, 3, 2, 6, 5};
        for (int i = 0; i < streets.length; i++) {
            due.is("42: kinds of " + streets[i], Due.street("street tables 1 moon 0;stands " + streets[i] + ";").told(6), kindsOf[i]);
        }
        LetterNights x = Due.street("street tables 1 moon 0;rule 0 a : bc;rule 0 b : de;rule 0 c : f;rule 0 d : abcd;rule 0 e : nothing;rule 0 f : nothing;");
        int[] kinds = {1, 2, 3, 4, 6, 6, 6};
        // a, bc, def, abcd, bc de f abcd: all six.
        for (int night = 0; night < kinds.length; night++) {
            due.is("42: kinds behind " + night, x.told(6), kinds[night]);
            x.night(0);
        }
        LetterNights gone = Due.street("street tables 1 moon 0;stands abcdefabcdef;rule 0 a : nothing;rule 0 b : a;rule 0 c : b;"
                + "rule 0 d : c;rule 0 e : d;rule 0 f : e;");
        for (int left = 6; left >= 0; left--) {
            due.is("42: kinds", gone.told(6), left);
            due.is("42: the first one", gone.told(4), left > 0 ? 0 : 6);
            due.is("42: the last one", gone.told(5), left > 0 ? left - 1 : 6);
            gone.night(0);
        }
    }
}
