/** Promises 37 to 42: trays, images, what is told. */
public final class TraysTest {
    private static final Due due = new Due();

    public static void main(String[] args) {
        numbers();
        sorts();
        lists();
        images();
        told();
        due.close("TraysTest");
    }

    private static void numbers() {
        LetterNights x = new LetterNights();
        due.is("37: no tray", x.numbers(4, 0, 1), -2);
        due.is("37: no tray", x.numbers(-1, 0, 41), -2);
        due.is("37: no sort", x.numbers(0, 4, 41), -2);
        due.is("37: no sort", x.numbers(0, -1, 1), -2);
        due.is("37: too few", x.numbers(0, 0, -1), -3);
        due.is("37: too many", x.numbers(0, 0, 41), -3);
        due.is("38: still missing", x.write(0, 0, 1), -6);
        due.is("37: none", x.numbers(0, 0, 0), 0);
        due.is("38: no number", x.write(0, 0, 1), -7);
        due.is("16: not missing", x.perform(0), 0);
        due.is("37: forty", x.numbers(0, 3, 40), 0);
        due.is("38: the last", x.write(0, 39, Long.MIN_VALUE), Long.MIN_VALUE);
        due.is("38: behind it", x.write(0, 40, 1), -7);
        due.is("38: ahead", x.write(0, -1, 1), -7);
        due.is("38: no tray", x.write(4, 0, 1), -2);
        due.is("38: no tray", x.write(-1, 0, 1), -2);
        due.is("38: another one is missing", x.write(1, 0, 1), -6);
        x.numbers(1, 2, 2);
        x.write(1, 0, 5);
        due.is("37: it stays", x.numbers(1, 2, 41), -3);
        due.is("18: an f", x.judge(1, 0), 0);
        due.is("37: anew, all 0", x.numbers(1, 2, 2), 0);
        due.is("16: two nights", x.perform(1), 2);
    }

    private static void sorts() {
        LetterNights x = new LetterNights();
        long[] values = {0, 127, 128, 255, 256, -1, -128, -129, 32767, 32768, 65535, -32769, 2147483647L, 2147483648L,
            4294967295L, -2147483649L, Long.MAX_VALUE, Long.MIN_VALUE, 0x123456789abcdef0L};
        for (int sort = 0; sort < 4; sort++) {
            x.numbers(sort, sort, 3);
            for (long v : values) {
                long cut = sort == 0 ? (byte) v : sort == 1 ? (short) v : sort == 2 ? (int) v : v;
                due.is("38: " + v + " of sort " + sort, x.write(sort, 2, v), cut);
            }
        }
    }

    private static void lists() {
        LetterNights x = Due.street("street tables 1 moon 0;stands abcdef;");
        Due.tray(x, 0, 5, 5, 5, 5);
        due.is("39: four", x.lists(0, 0), 4);
        due.is("18: abcd", x.first(0), 0);
        due.is("39: from 2", x.lists(0, 2), 4);
        due.is("18: cdef", x.first(0), 2);
        due.is("39: two", x.lists(0, 4), 2);
        // efef now: the others stay.
        x.night(0);
        due.is("18: efef", x.first(0), -1);
        x.write(0, 2, 2);
        x.write(0, 3, 3);
        due.is("39: none", x.lists(0, 6), 0);
        due.is("39: behind the end", x.lists(0, 7), -3);
        due.is("39: below 0", x.lists(0, -1), -3);
        due.is("39: missing", x.lists(1, -1), -6);
        due.is("39: no tray", x.lists(4, -1), -2);
        x.numbers(1, 0, 0);
        due.is("39: no places", x.lists(1, 0), 0);
        LetterNights y = Due.street("street tables 1 moon 0;stands a;rule 0 a : bacd;");
        y.nights(19);
        y.numbers(0, 0, 40);
        long middle = y.length() / 2;
        due.is("39: forty", y.lists(0, middle - 20), 40);
        due.is("39: at the end", y.lists(0, y.length() - 3), 3);
        y.numbers(0, 0, 6);
        for (long from = middle - 9; from < middle; from++) {
            y.lists(0, from);
            due.holds("39: the word of a place stands there, or ahead", y.first(0) >= 0 && y.first(0) <= from);
        }
        // efef was kept behind what came in: read it back as a word of its own street.
        LetterNights z = Due.street("street tables 1 moon 0;stands efefab;");
        Due.tray(z, 0, 1, 1, 4, 5);
        due.is("39: ab comes in, ef stays", z.lists(0, 4), 2);
        Due.tray(z, 1, 0, 1, 4, 5);
        due.is("20: abef", z.backs(1, 0), z.backs(0, 0));
        for (int i = 0; i < 4; i++) {
            due.is("21: abef", z.backBy(0, 0, i), z.backBy(1, 0, i));
        }
    }

    private static void images() {
        LetterNights x = Due.street("street tables 2 moon 3;stands ab;rule 0 a : aab;rule 1 b : nothing;sleeps : moon = 8;");
        due.is("41: none was made", x.restore(0), -5);
        due.is("40: no image", x.image(2), -2);
        due.is("40: no image", x.image(-1), -2);
        due.is("41: no image", x.restore(2), -2);
        due.is("41: no image", x.restore(-1), -2);
        x.nights(3);
        x.moon(8);
        x.night(0);
        long length = x.length();
        due.is("40: made", x.image(1), 0);
        due.is("40: undoing goes on", x.told(7), 3);
        due.is("41: the other one", x.restore(0), -5);
        Texts.tell(x, "street tables 1 moon 0;stands f;rule 0 f : ff;");
        Texts.tell(x, "street;");
        x.nights(20);
        x.feed(0, 0, 0, 0, 0);
        due.is("40: the other one", x.image(0), 0);
        for (int i = 0; i < 2; i++) {
            due.is("41: restored", x.restore(1), 0);
            int[] told = {2, 8, 4, 3, 0, 1, 2, 0, 20, 5};
            for (int what = 0; what < told.length; what++) {
                due.is("41: told(" + what + ")", x.told(what), told[what]);
            }
            due.is("41: length", x.length(), length);
            due.is("41: rules", x.becomes(0, 0, -1), 3);
            due.is("41: laws", x.picks(), -1);
            due.is("41: nothing to undo", x.undo(1), -3);
            due.is("41: the fault isn't in it", x.fault(0), 2);
            due.is("41: letters", x.letter(length - 2), 1);
            x.moon(1);
            x.night(2);
            due.is("41: on from it", x.told(6), 1);
        }
        due.is("41: the other one", x.restore(0), 0);
        due.is("41: the other one", x.length(), 1 << 20);
        x.night(0);
        due.is("14: undone", x.undo(1), 0);
        due.is("14: undone", x.length(), 1 << 20);
        due.is("40: in place of the former", x.image(1), 0);
        x.restore(1);
        due.is("41: the later one", x.told(9), 3);
    }

    private static void told() {
        LetterNights x = Due.street("street tables 3 moon 6;stands cbcd;rule 0 c : nothing;rule 1 d : nothing;rule 2 b : nothing;");
        int[] first = {3, 6, 0, 0, 2, 3, 3, 0, 0, 5};
        for (int what = 0; what < first.length; what++) {
            due.is("42: told(" + what + ")", x.told(what), first[what]);
        }
        x.night(1);
        due.is("42: bd, first", x.told(4), 1);
        due.is("42: bd, last", x.told(5), 3);
        due.is("42: bd, kinds", x.told(6), 2);
        x.night(2);
        due.is("42: b, last", x.told(5), 1);
        due.is("42: b, kinds", x.told(6), 1);
        x.night(3);
        due.is("42: nothing, first", x.told(4), 6);
        due.is("42: nothing, last", x.told(5), 6);
        due.is("42: nothing, kinds", x.told(6), 0);
        due.is("42: nights", x.told(2), 3);
        due.is("42: nights go on", x.night(0), 0);
        due.is("42: awake", x.told(3), 4);
        due.is("42: others", x.told(10), -1);
        due.is("42: others", x.told(-1), -1);
    }
}
