import java.util.ArrayList;
import java.util.List;

/**
 * Objects made by the same calls: if a call more changed one of them, some answer of it differs
 * from the untouched one's, for all that can be asked is asked of both (fewer than 400 calls).
 */
final class Twins {
    /** Makes an object, always by the same calls (110 at most). */
    interface Maker {
        LetterNights make();
    }

    interface Call {
        long on(LetterNights x);
    }

    private static final int TRAYS = 4;

    private final Due due;
    private final Maker maker;
    private final List<Long> untouched;

    Twins(Due due, Maker maker) {
        this.due = due;
        this.maker = maker;
        untouched = allOf(maker.make());
    }

    /** The call answers by that, and all stays as it was. */
    void stay(String what, Call call, long answer) {
        LetterNights x = maker.make();
        due.is(what, call.on(x), answer);
        List<Long> seen = allOf(x);
        int same = 0;
        while (same < seen.size() && same < untouched.size() && seen.get(same).equals(untouched.get(same))) {
            same++;
        }
        due.is(what + ": answers afterwards that are as they were", same, untouched.size());
    }

    /** What it is doesn't matter, only whether it is the same. */
    private static List<Long> allOf(LetterNights x) {
        List<Long> seen = new ArrayList<>();
        lookAt(x, seen);
        readTrays(x, seen);
        for (int left = x.told(7); left > 0; left--) {
            add(seen, x.undo(1), x.told(1), x.told(2), x.told(3), x.length(), x.letter(0));
        }
        add(seen, x.restore(0));
        lookAt(x, seen);
        add(seen, x.restore(1));
        lookAt(x, seen);
        writeTrays(x, seen);
        add(seen, x.street(x.told(8)), x.fault(0), x.fault(1), x.told(9), x.length());
        return seen;
    }

    private static void add(List<Long> seen, long... answers) {
        for (long answer : answers) {
            seen.add(answer);
        }
    }

    private static void lookAt(LetterNights x, List<Long> seen) {
        for (int what = 0; what < 10; what++) {
            add(seen, x.told(what));
        }
        add(seen, x.fault(0), x.fault(1), x.picks(), x.length(), x.mean(2, 0));
        for (int letter = 0; letter < 6; letter++) {
            add(seen, x.letter(letter), x.count(letter, x.length()));
            for (int table = 0; table < 3; table++) {
                int size = x.becomes(table, letter, -1);
                add(seen, size);
                if (size > 0) {
                    add(seen, x.becomes(table, letter, 0), x.becomes(table, letter, size - 1));
                }
            }
        }
    }

    private static void readTrays(LetterNights x, List<Long> seen) {
        for (int tray = 0; tray < TRAYS; tray++) {
            add(seen, x.judge(tray, 0), x.judge(tray, 2), x.occurs(tray), x.first(tray), x.longBy(tray), x.moons(tray));
        }
    }

    /** How many numbers a tray has, and of what sort they are. */
    private static void writeTrays(LetterNights x, List<Long> seen) {
        for (int tray = 0; tray < TRAYS; tray++) {
            add(seen, x.write(tray, 0, 0x123456789abcdef0L));
            int size = 1;
            while (size < 10 && x.write(tray, size, 1) >= 0) {
                size++;
            }
            add(seen, size);
        }
    }
}
