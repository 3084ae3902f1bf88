import java.io.IOException;
import java.nio.file.Files;
import java.nio.file.Path;
import java.util.regex.Matcher;
import java.util.regex.Pattern;

/** Each test that TESTS.md names is there, and is called by its class. */
public final class TestsListTest {
    private static final Due due = new Due("TestsListTest");

    private TestsListTest() {
    }

    public static void main(String[] args) throws IOException {
        Matcher named = Pattern.compile("\\b(\\w+Test)\\.(\\w+)\\b").matcher(Files.readString(Path.of("TESTS.md")));
        while (named.find()) {
            Path file = Path.of("src/test/java", named.group(1) + ".java");
            String code = Files.exists(file) ? Files.readString(file) : "";
            String head = "\\n    private (static )?void " + named.group(2) + "\\(";
            due.holds(named.group() + " is there", Pattern.compile(head).matcher(code).find());
            String call = "\\n {8}[^\\n]*\\b" + named.group(2) + "\\(";
            due.holds(named.group() + " is run", Pattern.compile(call).matcher(code).find());
        }
        due.end();
    }
}
