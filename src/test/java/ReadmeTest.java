import java.io.IOException;
import java.nio.file.DirectoryStream;
import java.nio.file.Files;
import java.nio.file.Path;
import java.util.Set;
import java.util.TreeSet;
import java.util.regex.Matcher;
import java.util.regex.Pattern;

/** What README.md says of the tests: it names each that there is, and none that there is not. Its example is ExampleMaker's. */
public final class ReadmeTest {
    private static final Path README = Path.of("README.md");
    private static final Path TESTS = Path.of("src/test/java");
    private static final Pattern TABLE_ROW = Pattern.compile("(?m)^\\| `(\\w+)` \\|");

    public static void main(String[] args) throws IOException {
        String text = Files.readString(README);
        Set<String> told = namesInTable(text);
        Set<String> there = new TreeSet<>();
        try (DirectoryStream<Path> files = Files.newDirectoryStream(TESTS, "*.java")) {
            for (Path file : files) {
                String name = file.getFileName().toString().replace(".java", "");
                Checks.holds("README.md names " + name, text.contains("`" + name + "`"));
                if (name.endsWith("Test")) {
                    there.add(name);
                }
            }
        }
        there.add("ReadmeExample");
        Checks.holds("README.md's table tells " + told + ", there are " + there, told.equals(there));
        Checks.holds("README.md says how the tests are run", text.contains(".ci/run"));
        Checks.holds("the tests can be run so", Files.isExecutable(Path.of(".ci/run")));
        Checks.finish("ReadmeTest");
    }

    private static Set<String> namesInTable(String text) {
        Set<String> names = new TreeSet<>();
        Matcher row = TABLE_ROW.matcher(text);
        while (row.find()) {
            names.add(row.group(1));
        }
        return names;
    }
}
