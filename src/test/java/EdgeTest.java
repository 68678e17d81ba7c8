import java.lang.reflect.InvocationTargetException;
import java.lang.reflect.Method;
import java.lang.reflect.Modifier;
import java.util.ArrayList;
import java.util.Comparator;
import java.util.List;
import java.util.Random;

/** No call may ever throw, for any arguments in any state; refused calls change nothing. */
public final class EdgeTest {
    private static final Due due = new Due();
    private static final long[] EDGES = {Long.MIN_VALUE, Integer.MIN_VALUE, -1000000, -3, -2, -1, 0, 1, 2, 3, 4, 5, 6, 7, 8, 9, 10, 12, 13,
        20, 21, 39, 40, 41, 59, 60, 61, 255, 900, 1000000, Integer.MAX_VALUE, 4294967296L, 1_000_000_000_000L, Long.MAX_VALUE};

    public static void main(String[] args) throws Exception {
        List<Method> face = new ArrayList<>();
        for (Method m : LetterNights.class.getDeclaredMethods()) {
            if (Modifier.isPublic(m.getModifiers())) {
                face.add(m);
            }
        }
        face.sort(Comparator.comparing(Method::getName));
        for (int seed = 0; seed < 2000; seed++) {
            run(face, new Random(seed));
        }
        due.close("EdgeTest");
    }

    /** Fewer than 512 calls: a text takes 46 at most, a call and the looking at it 23. */
    private static void run(List<Method> face, Random random) throws Exception {
        LetterNights x = new LetterNights();
        Texts texts = new Texts(random);
        int tell = random.nextInt(3);
        for (int i = 0; i < 16; i++) {
            if (i % 8 == 0 && tell > i / 8) {
                Texts.tell(x, i == 0 ? texts.good() : texts.doubtful());
            }
            Method m = face.get(random.nextInt(face.size()));
            Object[] arguments = arguments(m, random);
            int[] before = state(x);
            long answer = ask(x, m, arguments);
            if (answer < -1 && !m.getName().equals("street") && !m.getName().equals("write")) {
                due.holds(m.getName() + " was refused and changed something", java.util.Arrays.equals(before, state(x)));
            }
        }
    }

    private static int[] state(LetterNights x) {
        int[] state = new int[11];
        for (int what = 0; what < 10; what++) {
            state[what] = x.told(what);
        }
        state[10] = (int) x.length();
        return state;
    }

    private static Object[] arguments(Method m, Random random) {
        Class<?>[] types = m.getParameterTypes();
        Object[] arguments = new Object[types.length];
        for (int i = 0; i < types.length; i++) {
            long v = random.nextInt(3) > 0 ? random.nextInt(5) : EDGES[random.nextInt(EDGES.length)];
            arguments[i] = types[i] == int.class ? (Object) (int) v : (Object) v;
        }
        return arguments;
    }

    private static long ask(LetterNights x, Method m, Object[] arguments) throws Exception {
        try {
            return ((Number) m.invoke(x, arguments)).longValue();
        } catch (InvocationTargetException e) {
            due.holds(m.getName() + java.util.Arrays.toString(arguments) + " threw " + e.getCause(), false);
            return 0;
        }
    }
}
