import com.sun.management.ThreadMXBean;
import java.lang.management.ManagementFactory;

/**
 * An object is used for 512 calls: up to the last of them each call answers as the first one did,
 * and what all of them make stays within the room that a run has.
 */
public final class LastCallTest {
    private static final Due due = new Due();
    private static final ThreadMXBean threads = (ThreadMXBean) ManagementFactory.getThreadMXBean();
    private static final int CALLS = 512;

    /** A byte an element at least: fewer bytes than elements are allowed, and 16 an object, 600,000 of which are. */
    private static final long ROOM = 7_300_000;

    private static final String TEXT = "street tables 3 moon 9;stands abcdefabcdef;rule 0 a : abcd;rule 0 b : bcde;rule 0 c : cdef;rule 1 a : ba;"
            + "rule 1 b : cdd;rule 2 c : nothing;rule 2 f : fffe;picks : night*moon+front-back;sleeps : not night < 9;";

    private static final String SLEEPS = "street tables 3 moon 0;sleeps : 1 = 1;";

    interface Call {
        long on(LetterNights x, int call);
    }

    public static void main(String[] args) {
        asking();
        changing();
        texts();
        due.close("LastCallTest");
    }

    /** The calls from behind those that were made; the due answers are counted from 0 on. */
    private static void run(String what, LetterNights x, int made, Call call, Call answer) {
        long before = threads.getThreadAllocatedBytes(Thread.currentThread().getId());
        int wrong = 0;
        long[] got = new long[CALLS + 1];
        for (int i = made + 1; i <= CALLS; i++) {
            got[i] = call.on(x, i);
        }
        long bytes = threads.getThreadAllocatedBytes(Thread.currentThread().getId()) - before;
        for (int i = made + 1; i <= CALLS; i++) {
            wrong += got[i] == answer.on(null, i - made - 1) ? 0 : 1;
        }
        due.is(what + ": so many of 512 calls answered otherwise", wrong, 0);
        due.holds(what + ": bytes of the room: " + bytes, bytes < ROOM);
    }

    /** How many calls tell a street. */
    private static int callsOf(String text) {
        return (text.length() + 19) / 20 + 1;
    }

    /** Behind the street 26 calls: nights, an image, four trays of 0, 6, 8 and 6 numbers. */
    private static LetterNights walked() {
        LetterNights x = Due.street(TEXT);
        x.nights(7);
        x.image(0);
        Due.tray(x, 0, 1, 2, 3, 4, 5, 0);
        Due.tray(x, 1, -1, -1, -1, -1, -1, -1, -1, -1);
        Due.tray(x, 2, 1, 1, 1, 13, 1, 2);
        Due.tray(x, 3);
        return x;
    }

    private static void asking() {
        Call[] calls = {
            (x, i) -> x.fault(0), (x, i) -> x.becomes(0, 0, 3), (x, i) -> x.picks(), (x, i) -> x.length(), (x, i) -> x.letter(200),
            (x, i) -> x.count(1, 300), (x, i) -> x.place(3, 20), (x, i) -> x.judge(2, 2), (x, i) -> x.occurs(0), (x, i) -> x.first(0),
            (x, i) -> x.backs(0, 1), (x, i) -> x.backBy(0, 0, 1), (x, i) -> x.fate(0, 1), (x, i) -> x.degree(1, 0), (x, i) -> x.begins(0),
            (x, i) -> x.comes(5), (x, i) -> x.soonest(7), (x, i) -> x.way(x.length(), 0), (x, i) -> x.rows(100000, 7), (x, i) -> x.longBy(1),
            (x, i) -> x.tables(1, 7), (x, i) -> x.moons(1), (x, i) -> x.attempt(1), (x, i) -> x.turned(7), (x, i) -> x.best(7),
            (x, i) -> x.chance(12, 1), (x, i) -> x.mean(6, 0), (x, i) -> x.told(6), (x, i) -> x.lists(3, 0), (x, i) -> x.restore(0)
        };
        for (int k = 0; k < calls.length; k++) {
            Call call = calls[k];
            long first = call.on(walked(), 0);
            run("1: the asking call " + k, walked(), callsOf(TEXT) + 26, call, (x, i) -> first);
        }
    }

    private static void changing() {
        String grows = "street tables 1 moon 0;rule 0 a : ab;";
        run("11", Due.street(SLEEPS), callsOf(SLEEPS), (x, i) -> x.night(0), (x, i) -> 1);
        run("11, sixty", new LetterNights(), 0, (x, i) -> x.night(1), (x, i) -> i < 60 ? 1 : -12);
        run("12", Due.street(SLEEPS), callsOf(SLEEPS), (x, i) -> x.nights(60), (x, i) -> 60);
        run("13", new LetterNights(), 0, (x, i) -> x.moon(i % 10), (x, i) -> i % 10);
        run("14", Due.street(grows), callsOf(grows), (x, i) -> (i - callsOf(grows)) % 2 == 1 ? x.night(1) : x.undo(1), (x, i) -> i % 2 == 0 ? 2 : 0);
        run("16", forty(0), callsOf(SLEEPS) + 41, (x, i) -> x.perform(0), (x, i) -> 40);
        run("17", Due.street(SLEEPS), callsOf(SLEEPS), (x, i) -> x.year(0, 1), (x, i) -> 1);
        run("37", new LetterNights(), 0, (x, i) -> x.numbers(i % 4, 3, 40), (x, i) -> 0);
        run("38", forty(3), callsOf(SLEEPS) + 41, (x, i) -> x.write(0, i % 40, i), (x, i) -> i + callsOf(SLEEPS) + 42);
        run("39", forty(0), callsOf(SLEEPS) + 41, (x, i) -> x.lists(0, 0), (x, i) -> 1);
        run("40", new LetterNights(), 0, (x, i) -> x.image(i % 2), (x, i) -> 0);
        run("41", new LetterNights(), 0, (x, i) -> i < 3 ? x.image(i % 2) : x.restore(i % 2), (x, i) -> 0);
    }

    /** Behind the street 41 calls: a tray of 40 nights of themselves. */
    private static LetterNights forty(int sort) {
        LetterNights x = Due.street(SLEEPS);
        x.numbers(0, sort, 40);
        for (int i = 0; i < 40; i++) {
            x.write(0, i, 0);
        }
        return x;
    }

    private static void texts() {
        run("2", new LetterNights(), 0, (x, i) -> x.feed(i, i, i, i, i), (x, i) -> i < 45 ? 20 * i + 20 : -5);
        run("3, nothing", new LetterNights(), 0, (x, i) -> x.street(0), (x, i) -> -32);
        int[] f = Texts.fed("street tables2moon0;", 0);
        run("3, the shortest", new LetterNights(), 0, (x, i) -> i % 2 == 1 ? x.feed(f[0], f[1], f[2], f[3], f[4]) : x.street(20), (x, i) -> i % 2 == 0 ? 20 : 1);
        StringBuilder lines = new StringBuilder("street tables3moon0;");
        while (lines.length() < 850) {
            lines.append("picks:1+1+1;sleeps:1=2;");
        }
        long lineCount = lines.chars().filter(c -> c == ';').count();
        while (lines.length() < 900) {
            lines.append(' ');
        }
        int[][] fed = new int[45][];
        for (int k = 0; k < 45; k++) {
            fed[k] = Texts.fed(lines.toString(), 20 * k);
        }
        run("3, the longest", new LetterNights(), 0, (x, i) -> {
            int k = (i - 1) % 46;
            return k == 45 ? x.street(900) : x.feed(fed[k][0], fed[k][1], fed[k][2], fed[k][3], fed[k][4]);
        }, (x, i) -> i % 46 == 45 ? lineCount : 20 * (i % 46) + 20);
    }
}
