import java.io.IOException;
import java.lang.reflect.Method;
import java.lang.reflect.Modifier;
import java.nio.file.DirectoryStream;
import java.nio.file.Files;
import java.nio.file.Path;
import java.util.ArrayList;
import java.util.List;

/** README.md says how to use the class and how to run its tests: what it says holds, and nothing is left out. */
public final class ReadmeTest extends Check {
    private static final Path README = Path.of("README.md");
    private static final Path ITSELF = Path.of("src/test/java/ReadmeTest.java");
    private static final String BEGIN = "// The example begins";
    private static final String END = "// The example ends";

    /** Between the two comments stand the lines of the example in README.md, and nothing else. */
    private static void example() {
        // The example begins
        OwnMemory m = new OwnMemory(1000);
        m.text(0, 0x00680069L, 2);
        m.join(1, 0, 0);
        m.name(2, 1);
        m.take(3, 1, 1, 2);
        m.tie(3, 0, 2);
        m.number(3, 0, 42);
        m.set(3, 1, -7);
        m.drop(2);
        int words = m.collect();
        m.lead(3, 0, 4);
        m.name(5, 1);
        boolean isOne = m.same(4, 5);
        m.join(1, 1, 1);
        m.join(1, 1, 1);
        m.join(1, 1, 1);
        int before = m.kind(1);
        int last = m.unit(1, 31);
        int after = m.kind(1);
        // The example ends
        due("words", 25, () -> words);
        due("isOne", true, () -> isOne);
        due("before", JOINED, () -> before);
        due("last", (int) 'i', () -> last);
        due("after", SPREAD, () -> after);
        due("words at the end: the text hi, the spread one, the name, the block", 5 + 6 + 20 + 6 + 8, m::collect);
    }

    /** The lines between two lines, without what stands behind // in them. */
    private static List<String> linesBetween(Path file, String begin, String end) throws IOException {
        List<String> all = new ArrayList<>();
        boolean isInside = false;
        for (String line : Files.readAllLines(file)) {
            if (isInside && line.trim().equals(end)) {
                return all;
            }
            if (isInside) {
                all.add(line.replaceAll("\\s*//.*", "").trim());
            }
            isInside |= line.trim().equals(begin);
        }
        return all;
    }

    private static void exampleIsThisOne() throws IOException {
        List<String> tested = linesBetween(ITSELF, BEGIN, END);
        List<String> said = linesBetween(README, "```java", "```");
        due("the example has lines", true, () -> said.size() > 10);
        due("the example of README.md", tested, () -> said);
    }

    private static void callsAreNamed(String text) {
        due("the constructor is named", true, () -> text.contains("`new OwnMemory(limit)`"));
        for (Method m : OwnMemory.class.getDeclaredMethods()) {
            if (Modifier.isPublic(m.getModifiers())) {
                String call = m.getName();
                due("arguments of " + call, m.getParameterCount(), () -> argumentsSaid(text, call));
            }
        }
    }

    /** How many arguments the table says for a call; -1 if it does not name it. */
    private static int argumentsSaid(String text, String call) {
        int at = text.indexOf("`" + call + "(");
        if (at < 0) {
            return -1;
        }
        String inside = text.substring(at + call.length() + 2, text.indexOf(')', at));
        return inside.isEmpty() ? 0 : inside.split(",").length;
    }

    private static void testsAreNamed(String text) throws IOException {
        due("how all tests are run", true, () -> text.contains("\n    .ci/run\n"));
        due("where the shared tests are", true, () -> text.contains("`../shared/tests`"));
        try (DirectoryStream<Path> tests = Files.newDirectoryStream(Path.of("src/test/java"), "*.java")) {
            for (Path test : tests) {
                String name = test.getFileName().toString().replace(".java", "");
                due(name + " is named", true, () -> text.contains("\n- `" + name + "`: "));
            }
        }
    }

    public static void main(String[] args) throws IOException {
        String text = Files.readString(README);
        example();
        exampleIsThisOne();
        callsAreNamed(text);
        testsAreNamed(text);
        end();
    }
}
