import java.io.IOException;
import java.lang.reflect.Method;
import java.lang.reflect.Modifier;
import java.nio.file.Files;
import java.nio.file.Path;
import java.util.List;

/** README.md tells every call of the face, and its example answers what it says there. */
public final class ReadmeTest {
    private static final Due due = new Due();
    private static List<String> lines;
    private static int exampleLine;

    public static void main(String[] args) throws IOException {
        lines = Files.readAllLines(Path.of("README.md"));
        example();
        everyCallIsTold();
        if (!lines.contains("    .ci/run")) {
            due.fail("README.md does not name the command that runs the tests");
        }
        due.end();
    }

    private static void example() {
        exampleLine = lines.indexOf("```java") + 1;
        next("PolledHouses x = new PolledHouses();");
        PolledHouses x = new PolledHouses();
        answers("x.deposit(0, 3, 7);", x.deposit(0, 3, 7));
        answers("x.damage(1, 0, 4, 255);", x.damage(1, 0, 4, 255));
        answers("x.poll(0, 1, 99L);", x.poll(0, 1, 99L));
        answers("x.letters();", x.letters());
        next("while (x.step() != 0) { }");
        for (int i = 0; i < 100 && x.step() != 0; i++) {
            due.is("the example's letters end", i < 99, true);
        }
        answers("x.result(1);", x.result(1));
        answers("x.mends(1);", x.mends(1));
        answers("x.at(1, 0, 4);", x.at(1, 0, 4));
        answers("x.done();", x.done());
        answers("x.parts();", x.parts());
        next("```");
    }

    private static String next(String start) {
        String line = exampleLine < lines.size() ? lines.get(exampleLine) : "";
        exampleLine++;
        if (!line.startsWith(start)) {
            due.fail("README.md's example has \"" + line + "\" where the test has \"" + start + "\"");
        }
        return line;
    }

    private static void answers(String call, long got) {
        String line = next(call);
        String told = line.replaceAll(".*// (-?\\d+):.*", "$1");
        if (told.equals(line)) {
            due.fail("README.md does not tell what is answered in \"" + line + "\"");
        } else {
            due.is(call + " in README.md", got, Long.parseLong(told));
        }
    }

    private static void everyCallIsTold() {
        String table = String.join("\n", lines.stream().filter(line -> line.startsWith("| `")).toList());
        for (Method m : PolledHouses.class.getDeclaredMethods()) {
            if (Modifier.isPublic(m.getModifiers()) && !table.contains("`" + m.getName() + "(")) {
                due.fail("README.md does not tell " + m.getName());
            }
        }
    }
}
