import com.sun.management.ThreadMXBean;
import java.lang.management.ManagementFactory;
import java.util.Random;

/** All calls of a run live in one room: an object is small, and calls make next to nothing anew. */
public final class RoomTest {
    private static final Due due = new Due();
    private static final ThreadMXBean threads = (ThreadMXBean) ManagementFactory.getThreadMXBean();
    private static final String TEXT = "street tables 3 moon 0;stands abcdefabcdef;rule 0 a : abcd;rule 1 b : nothing;rule 2 c : aabb;"
            + "rule 1 d : ef;picks : night * front + back - rest;sleeps : moon = 7 and not night < 3;";

    public static void main(String[] args) {
        Due.street(TEXT);
        calls(Due.street(TEXT));
        long before = made();
        LetterNights x = new LetterNights();
        due.holds("an object is small", made() - before < 60_000);
        Texts.tell(x, TEXT);
        before = made();
        calls(x);
        // The one great call is attempt() of 6561 rows: its tally is made once.
        due.holds("calls make little: " + (made() - before), made() - before < 1_300_000);
        before = made();
        for (int i = 0; i < 4; i++) {
            calls(x);
        }
        due.holds("calls use again what was made: " + (made() - before), made() - before < 20_000);
        LetterNights y = new LetterNights();
        before = made();
        for (int i = 0; i < 100; i++) {
            y.feed(0x20202020, 0x20202020, 0x20202020, 0x20202020, 0x20202020);
            y.street(20);
        }
        due.holds("texts with a fault: " + (made() - before), made() - before < 100 * 1_200);
        due.close("RoomTest");
    }

    private static long made() {
        return threads.getThreadAllocatedBytes(Thread.currentThread().getId());
    }

    private static void calls(LetterNights x) {
        Random random = new Random(5);
        for (int tray = 0; tray < 4; tray++) {
            x.numbers(tray, 3, 8);
            for (int i = 0; i < 8; i++) {
                x.write(tray, i, tray == 0 ? -1 : random.nextInt(3));
            }
        }
        x.numbers(3, 0, 3);
        x.image(0);
        x.image(1);
        x.restore(0);
        x.night(0);
        x.nights(5);
        x.moon(3);
        x.undo(1);
        x.judge(1, 2);
        x.perform(1);
        x.year(4, 20);
        x.fault(0);
        x.becomes(0, 0, 0);
        x.picks();
        x.length();
        x.letter(3);
        x.count(1, 2);
        x.place(1, 1);
        x.occurs(3);
        x.first(3);
        x.backs(3, 0);
        x.backBy(3, 0, 0);
        x.fate(0, 0);
        x.degree(0, 0);
        x.begins(0);
        x.comes(3);
        x.soonest(1000);
        x.way(1000, 2);
        x.rows(1000, 7);
        x.longBy(0);
        x.tables(0, 3);
        x.moons(1);
        x.attempt(0);
        x.turned(7);
        x.best(7);
        x.chance(12, 0);
        x.mean(6, 0);
        x.lists(2, 0);
        x.told(6);
        x.restore(1);
    }
}
