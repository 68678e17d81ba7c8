import java.lang.reflect.Method;
import java.lang.reflect.Modifier;
import java.nio.charset.StandardCharsets;
import java.nio.file.Files;
import java.nio.file.Path;
import java.util.List;
import java.util.TreeSet;
import java.util.regex.Matcher;
import java.util.regex.Pattern;
import java.util.stream.Stream;

/** README.md's examples answer what stands behind them, and it names every call and every test. */
public final class ReadmeTest {
    private static final Due due = new Due();
    private static final Pattern CALL = Pattern.compile("x\\.(\\w+)\\(([^)]*)\\);\\s*// (-?\\d+)(:.*|,.*)?");
    private static final Pattern TELL = Pattern.compile("tell\\(x, \"([^\"]*)\"\\);\\s*// (-?\\d+)(:.*)?");

    private static LetterNights x = new LetterNights();
    private static int examples = 0;

    public static void main(String[] args) throws Exception {
        Path root = Path.of(System.getProperty("main.file", "src/main/java/LetterNights.java")).toAbsolutePath().getParent().getParent().getParent().getParent();
        String readme = Files.readString(root.resolve("README.md"), StandardCharsets.UTF_8);
        boolean inside = false;
        for (String line : readme.split("\n")) {
            if (line.startsWith("```")) {
                inside = line.equals("```java");
            } else if (inside) {
                example(line);
            }
        }
        due.holds("README: examples", examples > 50);
        calls(readme);
        tests(readme, root.resolve("src/test/java"));
        due.close("ReadmeTest");
    }

    private static void example(String line) throws Exception {
        if (line.equals("LetterNights x = new LetterNights();")) {
            x = new LetterNights();
            return;
        }
        if (line.startsWith("//")) {
            return;
        }
        examples++;
        Matcher tell = TELL.matcher(line);
        if (tell.matches()) {
            due.is("README: " + line, Texts.tell(x, tell.group(1)), Long.parseLong(tell.group(2)));
            return;
        }
        Matcher call = CALL.matcher(line);
        due.holds("README: a line that is a call: " + line, call.matches());
        if (call.matches()) {
            due.is("README: " + line, ask(call.group(1), call.group(2)), Long.parseLong(call.group(3)));
        }
    }

    private static long ask(String name, String told) throws Exception {
        for (Method m : LetterNights.class.getDeclaredMethods()) {
            if (m.getName().equals(name) && Modifier.isPublic(m.getModifiers())) {
                String[] words = told.isEmpty() ? new String[0] : told.split(", ");
                Object[] arguments = new Object[words.length];
                for (int i = 0; i < words.length; i++) {
                    arguments[i] = m.getParameterTypes()[i] == int.class ? (Object) Integer.valueOf(words[i]) : (Object) Long.valueOf(words[i]);
                }
                return ((Number) m.invoke(x, arguments)).longValue();
            }
        }
        throw new IllegalArgumentException("no call " + name);
    }

    private static void calls(String readme) {
        for (Method m : LetterNights.class.getDeclaredMethods()) {
            if (Modifier.isPublic(m.getModifiers())) {
                due.holds("README names " + m.getName(), readme.contains("`" + m.getName() + "`"));
            }
        }
    }

    private static void tests(String readme, Path folder) throws Exception {
        TreeSet<String> there = new TreeSet<>();
        try (Stream<Path> files = Files.list(folder)) {
            List<Path> all = files.toList();
            for (Path file : all) {
                String name = file.getFileName().toString().replace(".java", "");
                if (name.endsWith("Test")) {
                    there.add(name);
                }
            }
        }
        TreeSet<String> named = new TreeSet<>();
        Matcher rows = Pattern.compile("(?m)^\\| `(\\w+Test)").matcher(readme);
        while (rows.find()) {
            named.add(rows.group(1));
        }
        due.holds("README's tests " + named + ", those that are there " + there, named.equals(there));
    }
}
