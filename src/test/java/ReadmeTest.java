import java.io.IOException;
import java.nio.file.Files;
import java.nio.file.Path;
import java.util.Set;
import java.util.TreeSet;
import java.util.regex.Matcher;
import java.util.regex.Pattern;

/** What README.md says of the use of the class holds: its rows are run in their order on one object. */
public final class ReadmeTest {
    private static final Checks CHECKS = new Checks();
    private static final Pattern TEXT = Pattern.compile("^ {4}for \\(char c : \"([^\"]*)\"\\.toCharArray\\(\\)\\) \\{$");
    private static final Pattern ROW = Pattern.compile("^ {4}x\\.((\\w+)\\([^)]*\\)); *// (-?\\d+)\\b.*$");
    /** One call of each of these groups is shown at least. */
    private static final Set<String> SHOWN = Set.of("text", "alter", "runs", "need", "luck", "see", "drift", "keep", "read");

    public static void main(String[] args) throws IOException {
        Script script = new Script();
        Set<String> shown = new TreeSet<>();
        for (String line : Files.readAllLines(Path.of("README.md"))) {
            Matcher text = TEXT.matcher(line);
            Matcher row = ROW.matcher(line);
            if (text.matches()) {
                script.feed(text.group(1));
            } else if (row.matches()) {
                shown.add(row.group(2));
                CHECKS.due("README.md: " + row.group(1), script.call(row.group(1)), Long.parseLong(row.group(3)));
            } else {
                CHECKS.due("README.md: a row without its answer: " + line, line.startsWith("    x.") ? 1 : 0, 0);
            }
        }
        for (String name : SHOWN) {
            CHECKS.due("README.md shows " + name + "()", shown.contains(name) ? 1 : 0, 1);
        }
        CHECKS.finish();
    }
}
