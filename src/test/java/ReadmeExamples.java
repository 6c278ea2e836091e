import java.io.IOException;
import java.nio.file.Files;
import java.nio.file.Path;
import java.util.ArrayList;
import java.util.List;
import java.util.regex.Matcher;
import java.util.regex.Pattern;

/**
 * Writes the examples of README.md as a test, ReadmeTest, so that javac reads them as a user would write them and every
 * call is held against the answer that stands behind it. Its arguments: README.md's path, and that of the test.
 */
public final class ReadmeExamples {
    private static final String MADE = "TideShelves shelves = new TideShelves();";
    /** A call, kept under a name or not; its answer, as an expression of Java; and why. */
    private static final Pattern ANSWERED = Pattern.compile("(?:(int|long) (\\w+) = )?(shelves\\..+); +// ([^:]+): .+");

    private ReadmeExamples() {
    }

    public static void main(String[] args) throws IOException {
        List<String> test = new ArrayList<>();
        test.add("public final class ReadmeTest {");
        test.add("    public static void main(String[] args) {");
        test.add("        Due.part(\"README.md\");");
        for (String line : examplesOf(Files.readAllLines(Path.of(args[0])))) {
            test.add("        " + line);
        }
        test.add("        Due.end();");
        test.add("    }");
        test.add("}");
        Files.write(Path.of(args[1]), test);
    }

    /** Each example in braces of its own, since each makes its own object. */
    private static List<String> examplesOf(List<String> readme) {
        List<String> found = new ArrayList<>();
        boolean inside = false;
        int answers = 0;
        for (String line : readme) {
            if (line.equals(inside ? "```" : "```java")) {
                inside = !inside;
                found.add(inside ? "{" : "}");
            } else if (inside && !line.isBlank()) {
                found.add(asTest(line));
                answers += line.equals(MADE) ? 0 : 1;
            }
        }
        if (inside || answers == 0) {
            throw new IllegalArgumentException("README.md has no whole example");
        }
        return found;
    }

    private static String asTest(String line) {
        if (line.equals(MADE)) {
            return line;
        }
        Matcher answered = ANSWERED.matcher(line);
        if (!answered.matches()) {
            throw new IllegalArgumentException("README.md has a call without an answer: " + line);
        }
        String name = answered.group(2), call = answered.group(3), answer = answered.group(4);
        if (name == null) {
            return "Due.is(\"" + call + "\", " + call + ", " + answer + ");";
        }
        return answered.group(1) + " " + name + " = " + call + "; Due.is(\"" + call + "\", " + name + ", " + answer + ");";
    }
}
