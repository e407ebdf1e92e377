import java.io.IOException;
import java.nio.file.Files;
import java.nio.file.Path;
import java.util.ArrayList;
import java.util.LinkedHashMap;
import java.util.List;
import java.util.Map;
import java.util.TreeSet;
import java.util.regex.Matcher;
import java.util.regex.Pattern;

/**
 * Which method of the class calls which, as its file tells: recursion is what the document's limits end
 * (LANGUAGE.md, 8), and calls that are no recursion go at most eight deep, the library's with them (11).
 * Methods of one name count as one, which can only make calls deeper.
 */
public final class CallsTest {
    private static final int DEEPEST = 8;
    /** A chest a level; what stands open in a text. */
    private static final TreeSet<String> RECURSION = new TreeSet<>(List.of("rowsFrom", "anyFrom", "searchFrom",
        "readEither", "readBoth", "readNot", "readSum", "readTerm", "readOne"));
    private static final Pattern HEAD =
        Pattern.compile("(?: {4}){1,2}(?:(?:public|private|static) )*(?:[\\w\\[\\]]+ )?(\\w+)\\([^()]*\\) \\{");
    private static final Pattern CALL = Pattern.compile("(new )?\\b(?:[a-z]\\w*\\.)?(\\w+)(?:\\[\\w*\\])*\\(");
    private static final List<String> NO_CALLS = List.of("if", "for", "while", "switch", "return");

    private final Map<String, TreeSet<String>> calls = new LinkedHashMap<>();
    private final List<String> answered = new ArrayList<>();

    public static void main(String[] args) throws IOException {
        CallsTest test = new CallsTest();
        test.read(Files.readString(Path.of(System.getProperty("source", "src/main/java/TwoKeys.java"))));
        test.recursion();
        test.depth();
        Check.end();
    }

    private void read(String all) {
        String[] lines = all.replaceAll("(?s)/\\*.*?\\*/", "").replaceAll("//[^\n]*", "").replaceAll("\"[^\"]*\"", "").split("\n");
        for (int i = 0; i < lines.length; i++) {
            Matcher head = HEAD.matcher(lines[i]);
            if (!head.matches()) continue;
            String name = head.group(1);
            if (lines[i].contains(" public ")) answered.add(name);
            String end = lines[i].replaceAll("\\S.*", "}");
            for (i++; i < lines.length && !lines[i].equals(end); i++) readCalls(name, lines[i]);
        }
        Check.due("public methods and the constructor", answered.size(), 34);
        Check.holds("calls were found", calls.get("text").contains("read") && calls.get("read").contains("need"));
    }

    private void readCalls(String name, String line) {
        TreeSet<String> called = calls.computeIfAbsent(name, n -> new TreeSet<>());
        Matcher call = CALL.matcher(line);
        while (call.find()) {
            if (!NO_CALLS.contains(call.group(2))) called.add(call.group(2));
        }
    }

    private TreeSet<String> calledBy(String name) {
        return calls.getOrDefault(name, new TreeSet<>());
    }

    /** All that a method calls, itself or through others. */
    private TreeSet<String> reachedFrom(String name) {
        TreeSet<String> reached = new TreeSet<>(calledBy(name));
        List<String> open = new ArrayList<>(reached);
        for (int i = 0; i < open.size(); i++) {
            for (String next : calledBy(open.get(i))) {
                if (reached.add(next)) open.add(next);
            }
        }
        return reached;
    }

    private void recursion() {
        TreeSet<String> found = new TreeSet<>();
        for (String name : calls.keySet()) {
            if (reachedFrom(name).contains(name)) found.add(name);
        }
        Check.holds("recursion: " + found, found.equals(RECURSION));
    }

    private void depth() {
        for (String name : answered) {
            List<String> way = deepestFrom(name);
            Check.holds(way.size() + " deep: " + way, way.size() <= DEEPEST);
        }
    }

    /** The longest way of calls, those that call one another counted as one. */
    private List<String> deepestFrom(String name) {
        TreeSet<String> group = new TreeSet<>(List.of(name));
        for (String other : reachedFrom(name)) {
            if (reachedFrom(other).contains(name)) group.add(other);
        }
        List<String> deepest = new ArrayList<>();
        for (String one : group) {
            for (String next : calledBy(one)) {
                if (group.contains(next)) continue;
                List<String> way = deepestFrom(next);
                if (way.size() > deepest.size()) deepest = way;
            }
        }
        List<String> whole = new ArrayList<>(List.of(group.size() > 1 ? group.toString() : name));
        whole.addAll(deepest);
        return whole;
    }
}
