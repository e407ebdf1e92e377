import java.io.IOException;
import java.nio.file.Files;
import java.nio.file.Path;
import java.util.Arrays;
import java.util.List;
import java.util.regex.Matcher;
import java.util.regex.Pattern;
import java.util.stream.Stream;

/** README.md tells what is so: its calls answer as it says, and it names every test. */
public final class ReadmeTest {
    private static final Pattern CALL = Pattern.compile("town\\.(\\w+)\\(([-0-9, ]*)\\); +// (-?[0-9]+): ");

    private ReadmeTest() { }

    public static void main(String[] args) throws IOException {
        String readme = Files.readString(Path.of(System.getProperty("readme", "README.md")));
        calls(readme);
        try (Stream<Path> tests = Files.list(Path.of(System.getProperty("tests", "src/test/java")))) {
            List<String> names = tests.map(p -> p.getFileName().toString()).filter(n -> n.endsWith("Test.java")).toList();
            for (String name : names) {
                String test = name.replace(".java", "");
                Check.holds("README.md names " + test, readme.contains("`" + test + "`"));
            }
            Check.holds("there are tests", !names.isEmpty());
        }
        Check.end();
    }

    private static void calls(String readme) {
        TwoKeys town = new TwoKeys();
        Matcher m = CALL.matcher(readme);
        int calls = 0;
        while (m.find()) {
            int[] with = Arrays.stream(m.group(2).split(", *")).filter(s -> !s.isEmpty()).mapToInt(Integer::parseInt).toArray();
            FaceCall call = new FaceCall(m.group(1), with);
            Check.due("README.md: " + call, call.on(town), Long.parseLong(m.group(3)));
            calls++;
        }
        Check.due("README.md: calls with an answer", calls, readme.split("town\\.", -1).length - 1);
        Check.holds("README.md has calls", calls > 0);
    }
}
