import java.io.IOException;
import java.lang.reflect.Field;
import java.lang.reflect.Method;
import java.lang.reflect.Modifier;
import java.nio.file.Files;
import java.nio.file.Path;
import java.util.ArrayList;
import java.util.List;
import java.util.Set;
import java.util.TreeSet;
import java.util.regex.Matcher;
import java.util.regex.Pattern;

/** The rules of LANGUAGE.md, by their numbers, that can be read off the file and its classes. */
public final class LanguageTest {
    private static final int MOST_CLASSES = 12;
    private static final int MOST_FIELDS = 20;
    private static final int MOST_PARAMETERS = 7;
    private static final int MOST_LINES = 60;
    private static final Set<String> LIBRARY = Set.of("Math", "Integer", "Long", "String", "StringBuilder",
        "ArrayList", "List", "Arrays", "System", "Comparable", "Iterator", "Iterable");
    private static final Set<Class<?>> CONSTANT_TYPES = Set.of(int.class, long.class, boolean.class, char.class,
        String.class, int[].class, long[].class, char[].class, byte[].class);
    private static final String[] RULED_OUT = {"->", "::", "package ", "throws ", "throw ", "try ", "catch ",
        "finally ", "synchronized", "assert ", "static {", "volatile", "transient", "native", "Exact("};

    private static final Due due = new Due();

    public static void main(String[] args) throws IOException {
        String text = Files.readString(Path.of("src/main/java/PolledHouses.java"));
        String code = text.replaceAll("(?s)/\\*.*?\\*/", "").replaceAll("//[^\n]*", "");
        List<Class<?>> classes = new ArrayList<>();
        classes.add(PolledHouses.class);
        classes.addAll(List.of(PolledHouses.class.getDeclaredClasses()));
        inside(classes);
        names(classes);
        staticFields(classes);
        sizes(classes);
        methodLines(text);
        library(code, classes);
        ruledOut(code);
        due.end();
    }

    private static void rule(int number, String what, boolean isKept) {
        due.is("rule " + number + ": " + what, isKept, true);
    }

    private static void inside(List<Class<?>> classes) {
        for (Class<?> c : classes.subList(1, classes.size())) {
            int m = c.getModifiers();
            rule(1, c + " is static", Modifier.isStatic(m));
            rule(1, c + " is private or package-visible", !Modifier.isPublic(m) && !Modifier.isProtected(m));
            rule(2, c + " has no class inside it", c.getDeclaredClasses().length == 0);
        }
    }

    private static void names(List<Class<?>> classes) {
        Set<String> face = new TreeSet<>();
        for (Method m : PolledHouses.class.getDeclaredMethods()) {
            if (Modifier.isPublic(m.getModifiers())) {
                face.add(m.getName());
            }
        }
        for (Class<?> c : classes) {
            for (Method m : c.getDeclaredMethods()) {
                boolean isPublic = Modifier.isPublic(m.getModifiers());
                rule(1, m + " bears no name of the face", isPublic || !face.contains(m.getName()));
            }
        }
    }

    private static void staticFields(List<Class<?>> classes) {
        for (Class<?> c : classes) {
            for (Field f : c.getDeclaredFields()) {
                if (Modifier.isStatic(f.getModifiers())) {
                    rule(5, f + " is final", Modifier.isFinal(f.getModifiers()));
                    rule(5, f + " is of a type for constants", CONSTANT_TYPES.contains(f.getType()));
                }
            }
        }
    }

    private static void sizes(List<Class<?>> classes) {
        rule(11, "classes are few", classes.size() <= MOST_CLASSES);
        for (Class<?> c : classes) {
            int fields = 0;
            for (Field f : c.getDeclaredFields()) {
                fields += Modifier.isStatic(f.getModifiers()) ? 0 : 1;
            }
            rule(11, "the fields of " + c + " are few", fields <= MOST_FIELDS);
            for (Method m : c.getDeclaredMethods()) {
                rule(11, "the parameters of " + m + " are few", m.getParameterCount() <= MOST_PARAMETERS);
            }
        }
    }

    /** A method begins with a line that has a bracket and a brace, and ends with a brace as far in as that line. */
    private static void methodLines(String text) {
        String[] lines = text.split("\n");
        for (int i = 0; i < lines.length; i++) {
            if (lines[i].matches("( {4}| {8})[a-z].*\\) \\{") && !lines[i].matches(" *(if|for|while|switch|do) .*")) {
                String end = lines[i].replaceAll("\\S.*", "}");
                int last = i;
                while (last < lines.length && !lines[last].equals(end)) {
                    last++;
                }
                rule(11, "short:" + lines[i], last < lines.length && last - i < MOST_LINES);
            }
        }
    }

    private static void library(String code, List<Class<?>> classes) {
        Set<String> known = new TreeSet<>(LIBRARY);
        for (Class<?> c : classes) {
            known.add(c.getSimpleName());
        }
        Matcher capital = Pattern.compile("\\b[A-Z]\\w*[a-z]\\w*").matcher(code);
        while (capital.find()) {
            rule(4, capital.group() + " is there to be used", known.contains(capital.group()));
        }
        Matcher imported = Pattern.compile("import ([^;]*);").matcher(code);
        while (imported.find()) {
            rule(4, imported.group(1) + " may be imported",
                imported.group(1).matches("java\\.util\\.(ArrayList|List|Arrays|Iterator)"));
        }
    }

    private static void ruledOut(String code) {
        for (String word : RULED_OUT) {
            int times = code.split(Pattern.quote(word), -1).length - 1;
            due.is("rules 2, 4, 5, 6, 7: times that the file has " + word, times, 0);
        }
    }
}
