import java.io.IOException;
import java.nio.file.Files;
import java.nio.file.Path;
import java.util.List;
import java.util.Map;
import java.util.regex.Matcher;
import java.util.regex.Pattern;

/** The rules of ../shared/LANGUAGE.md, by number, that can be seen in the words of the source. */
public final class LanguageTest {
    private static final Path SOURCE = Path.of("src/main/java/TideShelves.java");
    private static final Map<String, String> RULED_OUT = Map.of(
            "1: no package", "\\b(package|import)\\b",
            "1: nothing public or protected inside", "\\bprotected\\b|(?m)^ {8,}public\\b",
            "2: no lambda, no method reference", "->|::",
            "2: no class within a method", "(?m)^ {8,}[^\\n]*\\b(class|interface|enum|record) ",
            "3: no doubles or floats, so none that is no number", "\\b(double|float|Double|Float)\\b",
            "4: none of Math's that throw, no other library", "Exact\\b|\\bjava\\.",
            "5: no static initialiser", "\\bstatic\\s*\\{",
            "6: no throw, try and their like", "\\b(throw|throws|try|catch|finally|synchronized|assert)\\b",
            "6: no equals, hashCode, toString", "\\b(equals|hashCode|toString)\\b",
            "13: nothing from outside", "\\b(System|Thread|Runtime|Random|Object|Class)\\b");
    private static final int MOST_LINES = 60;

    public static void main(String[] args) throws IOException {
        String words = withoutComments(Files.readString(SOURCE));
        for (Map.Entry<String, String> rule : RULED_OUT.entrySet()) {
            Due.part("rule " + rule.getKey());
            Matcher found = Pattern.compile(rule.getValue()).matcher(words);
            while (found.find()) {
                Due.is("'" + found.group().trim() + "' in the source", 1, 0);
            }
        }
        methodsAreShort(List.of(words.split("\n")));
        Due.end();
    }

    /** The source has no texts, so nothing else in it can look like a comment. */
    private static String withoutComments(String source) {
        Due.part("source");
        Due.is("texts", source.indexOf('"'), -1);
        return source.replaceAll("//[^\\n]*", "").replaceAll("(?s)/\\*.*?\\*/", "");
    }

    /** A method begins with a line that ends in '{' and has a '(', and ends with a '}' of the same indent. */
    private static void methodsAreShort(List<String> lines) {
        Due.part("rule 11: methods stay short");
        Pattern head = Pattern.compile("( {4}| {8})(public|private|int|void|long|boolean)\\b.*\\(.*\\{");
        int methods = 0;
        for (int first = 0; first < lines.size(); first++) {
            Matcher found = head.matcher(lines.get(first));
            if (found.matches()) {
                methods++;
                int length = lines.subList(first, lines.size()).indexOf(found.group(1) + "}") + 1;
                Due.is("lines of '" + lines.get(first).trim() + "', at most 60", Math.max(length, MOST_LINES), MOST_LINES);
            }
        }
        Due.is("methods are found", methods > 21 ? 1 : 0, 1);
    }
}
