import java.io.ByteArrayOutputStream;
import java.io.IOException;
import java.io.PrintStream;
import java.io.UncheckedIOException;
import java.lang.reflect.Method;
import java.lang.reflect.Modifier;
import java.nio.charset.StandardCharsets;
import java.nio.file.Files;
import java.nio.file.Path;
import java.util.ArrayList;
import java.util.List;
import java.util.TreeSet;

/** What README.md shows: that its program is Example.java and prints what it says, and that it tells each call. */
final class ReadmeTest {
    private ReadmeTest() {
    }

    static void run() {
        Check.test("README.md: its program is src/test/java/Example.java", ReadmeTest::program);
        Check.test("README.md: its program prints what stands behind its lines", ReadmeTest::prints);
        Check.test("README.md: its tables tell each call of the face, and no other one", ReadmeTest::calls);
    }

    private static void program() {
        List<String> shown = shownProgram();
        List<String> stands = lines("src/test/java/Example.java");
        Check.same("the program", stands, shown);
    }

    private static void prints() {
        List<String> due = new ArrayList<>();
        for (String line : shownProgram()) {
            int behind = line.indexOf("; // ");
            if (line.trim().startsWith("System.out.println(") && behind >= 0) {
                due.add(line.substring(behind + "; // ".length()));
            }
        }
        Check.no("nothing is printed", due.isEmpty());
        Check.same("the program", due, printed());
    }

    private static List<String> printed() {
        PrintStream out = System.out;
        ByteArrayOutputStream bytes = new ByteArrayOutputStream();
        System.setOut(new PrintStream(bytes, true, StandardCharsets.UTF_8));
        try {
            Example.main(new String[0]);
        } finally {
            System.setOut(out);
        }
        return bytes.toString(StandardCharsets.UTF_8).lines().toList();
    }

    private static void calls() {
        TreeSet<String> due = new TreeSet<>();
        for (Method method : Ringroll.class.getDeclaredMethods()) {
            if (Modifier.isPublic(method.getModifiers())) {
                due.add(method.getName() + " of " + method.getParameterCount());
            }
        }
        TreeSet<String> told = new TreeSet<>();
        for (String line : lines("README.md")) {
            if (line.startsWith("| `") && line.contains("(")) {
                String call = line.substring("| `".length(), line.indexOf('`', "| `".length()));
                String parameters = call.substring(call.indexOf('(') + 1, call.indexOf(')'));
                int count = parameters.isEmpty() ? 0 : parameters.split(",").length;
                told.add(call.substring(0, call.indexOf('(')) + " of " + count);
            }
        }
        Check.same("the calls", due, told);
    }

    private static List<String> shownProgram() {
        List<String> all = lines("README.md");
        int begin = all.indexOf("```java");
        Check.yes("a program stands in README.md", begin >= 0);
        List<String> rest = all.subList(begin + 1, all.size());
        int end = rest.indexOf("```");
        Check.yes("the program in README.md ends", end >= 0);
        return rest.subList(0, end);
    }

    /** The lines of a file of the project; .ci/run tells where that stands. */
    private static List<String> lines(String file) {
        try {
            return Files.readAllLines(Path.of(System.getProperty("root", "."), file));
        } catch (IOException thrown) {
            throw new UncheckedIOException(thrown);
        }
    }
}
