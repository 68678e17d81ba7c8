import java.lang.reflect.InvocationTargetException;
import java.lang.reflect.Method;
import java.lang.reflect.Modifier;
import java.util.ArrayList;
import java.util.Arrays;
import java.util.Comparator;
import java.util.List;
import java.util.Random;

/** Runs of calls by chance (with fixed seeds): LetterNights must answer as the plain Model does. */
public final class ModelTest {
    // What an object answers behind its 512th call is free, and the last step may take 60 calls.
    private static final int CALLS = 440;

    private final Random random;
    private final Texts texts;
    private final LetterNights x = new LetterNights();
    private final Model model = new Model();
    private final List<String> log = new ArrayList<>();
    private int calls = 0;

    private ModelTest(long seed) {
        random = new Random(seed);
        texts = new Texts(random);
    }

    private static List<Method> face() {
        List<Method> face = new ArrayList<>();
        for (Method m : LetterNights.class.getDeclaredMethods()) {
            if (Modifier.isPublic(m.getModifiers()) && !m.getName().equals("feed") && !m.getName().equals("street")) {
                face.add(m);
            }
        }
        face.sort(Comparator.comparing(Method::getName));
        return face;
    }

    private void ask(String name, Object... args) throws Exception {
        calls++;
        Class<?>[] types = null;
        Method mine = null;
        for (Method m : LetterNights.class.getDeclaredMethods()) {
            if (m.getName().equals(name) && Modifier.isPublic(m.getModifiers())) {
                mine = m;
                types = m.getParameterTypes();
            }
        }
        Method plain = Model.class.getDeclaredMethod(name, types);
        Object due;
        try {
            due = plain.invoke(model, args);
        } catch (InvocationTargetException e) {
            if (e.getCause() instanceof Model.TooLong) {
                throw new Model.TooLong();
            }
            throw e;
        }
        Object got = mine.invoke(x, args);
        log.add(name + Arrays.toString(args) + " -> " + got);
        if (!got.equals(due)) {
            throw new AssertionError(name + Arrays.toString(args) + " answered " + got + ", due is " + due);
        }
    }

    private void tell(String text) throws Exception {
        log.add("text: " + text);
        for (int from = 0; from < text.length(); from += 20) {
            int[] f = Texts.fed(text, from);
            ask("feed", f[0], f[1], f[2], f[3], f[4]);
        }
        ask("street", text.length());
        ask("fault", 0);
        ask("fault", 1);
    }

    private int edge(int low, int high) {
        return low - 1 + random.nextInt(high - low + 3);
    }

    private int mostly(int low, int high) {
        return random.nextInt(8) == 0 ? edge(low, high) : low + random.nextInt(high - low + 1);
    }

    private long aPlace() {
        int n = (int) model.length();
        return random.nextInt(4) == 0 ? new long[] {-1, 0, n - 1, n, n + 1}[random.nextInt(5)] : random.nextInt(n + 1);
    }

    private long aLength() {
        return random.nextInt(3) == 0 ? edge(0, 20) : model.turned(random.nextInt(4)) + random.nextInt(2) * random.nextInt(3);
    }

    private Object[] argumentsOf(String name) {
        switch (name) {
            case "fault": return new Object[] {edge(0, 1)};
            case "becomes": return new Object[] {mostly(0, 2), mostly(0, 5), edge(-1, 4)};
            case "letter": return new Object[] {aPlace()};
            case "count": return new Object[] {mostly(0, 5), aPlace()};
            case "place": return new Object[] {mostly(0, 5), (long) mostly(1, 1 + (int) model.length() / 3)};
            case "night": return new Object[] {mostly(0, 3)};
            case "nights": return new Object[] {random.nextInt(3) == 0 ? edge(1, 60) : mostly(1, 4)};
            case "moon": return new Object[] {mostly(0, 9)};
            case "undo": return new Object[] {mostly(1, 3)};
            case "judge": return new Object[] {mostly(0, 3), mostly(0, 3)};
            case "year": return new Object[] {random.nextInt(), mostly(1, 20)};
            case "backs": case "numbers2": return new Object[] {mostly(0, 3), mostly(0, 2)};
            case "backBy": return new Object[] {mostly(0, 3), mostly(0, 2), mostly(0, 5)};
            case "fate": case "degree": return new Object[] {mostly(0, 2), mostly(0, 5)};
            case "begins": return new Object[] {mostly(0, 2)};
            case "comes": return new Object[] {mostly(0, 5)};
            case "soonest": return new Object[] {aLength()};
            case "way": return new Object[] {aLength(), mostly(0, 5)};
            case "rows": return new Object[] {aLength(), mostly(0, 6)};
            case "tables": return new Object[] {mostly(0, 3), mostly(0, 7)};
            case "turned": case "best": return new Object[] {random.nextInt(6) == 0 ? edge(0, 7) : mostly(0, 4)};
            case "chance": return new Object[] {mostly(0, 12), mostly(0, 1)};
            case "mean": return new Object[] {mostly(0, 6), mostly(0, 1)};
            case "numbers": return new Object[] {mostly(0, 3), mostly(0, 3), mostly(0, 40)};
            case "write": return new Object[] {mostly(0, 3), mostly(0, 7), random.nextInt(3) == 0 ? random.nextLong() : (long) mostly(0, 9)};
            case "lists": return new Object[] {mostly(0, 3), aPlace()};
            case "image": case "restore": return new Object[] {mostly(0, 1)};
            case "told": return new Object[] {edge(0, 9)};
            case "picks": case "length": return new Object[0];
            default: return new Object[] {mostly(0, 3)};
        }
    }

    private void fill(int tray, long... values) throws Exception {
        ask("numbers", tray, 1 + random.nextInt(3), values.length);
        for (int i = 0; i < values.length; i++) {
            ask("write", tray, i, values[i]);
        }
    }

    /** Lengths that there have been by some row, some of them not told. */
    private long[] lengths() {
        Random own = new Random(random.nextLong());
        int n = random.nextInt(20) == 0 ? 8 : 1 + random.nextInt(5);
        long[] lengths = new long[n];
        for (int i = 0; i < n; i++) {
            lengths[i] = own.nextInt(3) == 0 ? -1 : model.turned(Math.min(i + 1, 4)) + (own.nextInt(8) == 0 ? 1 : 0);
        }
        return lengths;
    }

    private void askOfTrays() throws Exception {
        int tray = random.nextInt(4);
        int kind = random.nextInt(4);
        if (kind == 0) {
            int n = random.nextInt(9);
            ask("numbers", tray, random.nextInt(4), n);
            ask("lists", tray, aPlace());
            if (n > 0 && random.nextInt(3) == 0) {
                ask("write", tray, random.nextInt(n), (long) mostly(0, 5));
            }
            ask("occurs", tray);
            ask("first", tray);
            int table = mostly(0, 2);
            ask("backs", tray, table);
            for (int i = 0; i < 4; i++) {
                ask("backBy", tray, table, i);
            }
        } else if (kind == 1) {
            fill(tray, lengths());
            ask("longBy", tray);
            ask("tables", tray, random.nextInt(3));
            ask("attempt", tray);
            ask("moons", tray);
        } else if (kind == 2) {
            long[] lengths = new long[1 + random.nextInt(3)];
            for (int i = 0; i < lengths.length; i++) {
                lengths[i] = model.length() + random.nextInt(2);
            }
            fill(tray, lengths);
            ask("moons", tray);
        } else {
            long[] deeds = new long[random.nextInt(10)];
            for (int i = 0; i < deeds.length; i++) {
                deeds[i] = random.nextInt(4) == 0 ? mostly(10, 19) : mostly(0, 2);
            }
            fill(tray, deeds);
            for (int what = 0; what < 4; what++) {
                ask("judge", tray, what);
            }
            ask("perform", tray);
        }
    }

    private void askAll(List<Method> face) throws Exception {
        tell(texts.good());
        while (calls < CALLS) {
            int kind = random.nextInt(60);
            if (kind == 0) {
                tell(random.nextBoolean() ? texts.good() : texts.doubtful());
            } else if (kind < 12) {
                askOfTrays();
            } else if (kind == 12) {
                ask("street", random.nextInt(3) - 1);
            } else {
                String name = face.get(random.nextInt(face.size())).getName();
                ask(name, argumentsOf(name));
            }
        }
    }

    private void askTexts() throws Exception {
        while (calls < CALLS) {
            tell(texts.doubtful());
            ask("told", 9);
            ask("picks");
        }
    }

    private static int run(long seed, boolean textsAlone) throws Exception {
        ModelTest test = new ModelTest(seed);
        try {
            if (textsAlone) {
                test.askTexts();
            } else {
                test.askAll(face());
            }
        } catch (Model.TooLong e) {
            return test.calls;
        } catch (AssertionError e) {
            System.out.println("seed " + seed + (textsAlone ? " (texts)" : "") + ": " + e.getMessage());
            int from = Math.max(0, test.log.size() - 30);
            test.log.subList(from, test.log.size()).forEach(System.out::println);
            return -1;
        }
        return test.calls;
    }

    public static void main(String[] args) throws Exception {
        int runs = args.length > 0 ? Integer.parseInt(args[0]) : 300;
        long first = args.length > 1 ? Long.parseLong(args[1]) : 1;
        long calls = 0;
        int wrong = 0;
        for (int i = 0; i < runs && wrong < 3; i++) {
            for (boolean textsAlone : new boolean[] {false, true}) {
                int made = run(first + i, textsAlone);
                wrong += made < 0 ? 1 : 0;
                calls += Math.max(0, made);
            }
        }
        System.out.println(wrong == 0 ? calls + " answers are as the model's" : wrong + " runs went wrong");
        if (wrong != 0) {
            System.exit(1);
        }
    }
}
