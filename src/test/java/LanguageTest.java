import java.lang.reflect.Constructor;
import java.lang.reflect.Field;
import java.lang.reflect.Method;
import java.lang.reflect.Modifier;
import java.nio.charset.StandardCharsets;
import java.nio.file.Files;
import java.nio.file.Path;
import java.util.Arrays;
import java.util.HashSet;
import java.util.List;
import java.util.Set;
import java.util.TreeSet;
import java.util.regex.Matcher;
import java.util.regex.Pattern;

/** The face of the document, and what of ../shared/LANGUAGE.md can be seen from the class and its text. */
public final class LanguageTest {
    private static final Due due = new Due();

    private static final String FACE = "int feed(int,int,int,int,int);int street(int);int fault(int);int becomes(int,int,int);"
            + "int picks();long length();int letter(long);long count(int,long);long place(int,long);long night(int);"
            + "int nights(int);int moon(int);int undo(int);int judge(int,int);int perform(int);int year(int,int);"
            + "long occurs(int);long first(int);int backs(int,int);int backBy(int,int,int);int fate(int,int);"
            + "int degree(int,int);int begins(int);int comes(int);int soonest(long);int way(long,int);int rows(long,int);"
            + "int longBy(int);int tables(int,int);int moons(int);int attempt(int);long turned(int);int best(int);"
            + "int chance(int,int);long mean(int,int);int numbers(int,int,int);long write(int,int,long);"
            + "int lists(int,long);int image(int);int restore(int);int told(int)";

    private static final Set<String> LIBRARY = new HashSet<>(Arrays.asList("Arrays.fill", "Arrays.copyOf",
            "Arrays.copyOfRange", "System.arraycopy", "Math.min", "Math.max", "Math.abs", "Math.floorMod", "Math.floorDiv"));

    public static void main(String[] args) throws Exception {
        face();
        members(LetterNights.class);
        for (Class<?> inside : LetterNights.class.getDeclaredClasses()) {
            due.holds("2: static: " + inside, Modifier.isStatic(inside.getModifiers()) || inside.isInterface());
            due.holds("1: not public: " + inside, !Modifier.isPublic(inside.getModifiers()) && !Modifier.isProtected(inside.getModifiers()));
            members(inside);
        }
        due.holds("11: some twelve classes", LetterNights.class.getDeclaredClasses().length < 13);
        text(Files.readString(Path.of(System.getProperty("main.file", "src/main/java/LetterNights.java")), StandardCharsets.UTF_8));
        due.close("LanguageTest");
    }

    private static void face() {
        Class<?> c = LetterNights.class;
        due.holds("1: public and final", Modifier.isPublic(c.getModifiers()) && Modifier.isFinal(c.getModifiers()));
        due.is("1: NONE", LetterNights.NONE, -1);
        Set<String> seen = new TreeSet<>();
        for (Method m : c.getDeclaredMethods()) {
            if (Modifier.isPrivate(m.getModifiers())) {
                continue;
            }
            StringBuilder b = new StringBuilder(m.getReturnType() + " " + m.getName() + "(");
            for (Class<?> p : m.getParameterTypes()) {
                b.append(b.charAt(b.length() - 1) == '(' ? "" : ",").append(p);
            }
            seen.add(b.append(")").toString());
        }
        due.holds("1: the methods of the document and no others: " + seen, seen.equals(new TreeSet<>(List.of(FACE.split(";")))));
        due.is("1: one constructor", c.getDeclaredConstructors().length, 1);
        for (Constructor<?> k : c.getDeclaredConstructors()) {
            due.holds("1: it is public, without arguments", Modifier.isPublic(k.getModifiers()) && k.getParameterCount() == 0);
        }
        for (Field f : c.getDeclaredFields()) {
            due.holds("1: NONE alone isn't private: " + f, f.getName().equals("NONE") == !Modifier.isPrivate(f.getModifiers()));
        }
    }

    private static void members(Class<?> c) {
        Set<String> open = new HashSet<>();
        for (String s : FACE.split(";")) {
            open.add(s.substring(s.indexOf(' ') + 1, s.indexOf('(')));
        }
        int fields = 0;
        for (Field f : c.getDeclaredFields()) {
            boolean isStatic = Modifier.isStatic(f.getModifiers());
            due.holds("5: static fields are final: " + f, !isStatic || Modifier.isFinal(f.getModifiers()));
            fields += isStatic ? 0 : 1;
        }
        due.holds("11: some twenty fields: " + c, fields <= 20);
        for (Method m : c.getDeclaredMethods()) {
            due.holds("11: seven parameters: " + m, m.getParameterCount() <= 7);
            due.holds("1: named like one of the face: " + m, c == LetterNights.class && !Modifier.isPrivate(m.getModifiers()) || !open.contains(m.getName()));
        }
    }

    private static void text(String source) {
        String code = source.replaceAll("(?s)/\\*.*?\\*/", "").replaceAll("//[^\n]*", "").replaceAll("\"[^\"\n]*\"", "\"\"");
        for (String word : new String[] {"throw", "throws", "try", "catch", "synchronized", "assert", "double", "float", "package", "random"}) {
            due.holds("6: the word " + word, !Pattern.compile("\\b" + word + "\\b").matcher(code).find());
        }
        due.holds("2: no lambda, no method reference", !code.contains("->") && !code.contains("::"));
        due.holds("5: no static initialiser", !Pattern.compile("static\\s*\\{").matcher(code).find());
        due.holds("12: ASCII alone", source.chars().allMatch(ch -> ch < 128));
        Matcher imports = Pattern.compile("import ([\\w.]+);").matcher(code);
        while (imports.find()) {
            due.holds("4: import " + imports.group(1), imports.group(1).equals("java.util.Arrays"));
        }
        Matcher calls = Pattern.compile("\\b(Arrays|System|Math|Integer|Long|Character|String)\\.(\\w+)").matcher(code.replaceAll("import[^\n]*", ""));
        while (calls.find()) {
            due.holds("4: " + calls.group(), LIBRARY.contains(calls.group()));
        }
        methodSizes(code);
    }

    private static void methodSizes(String code) {
        String[] lines = code.split("\n");
        int from = -1;
        String end = "";
        for (int i = 0; i < lines.length; i++) {
            Matcher opens = Pattern.compile("^( +)(?!if|for|while|switch|else|return|.*\\bclass\\b)[\\w\\[\\] ]+\\(.*\\{$").matcher(lines[i]);
            if (from < 0 && opens.matches()) {
                from = i;
                end = opens.group(1) + "}";
            } else if (from >= 0 && lines[i].equals(end)) {
                due.holds("11: sixty lines: " + lines[from].trim(), i - from < 60);
                from = -1;
            }
        }
    }
}
