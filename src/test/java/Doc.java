import java.io.IOException;
import java.nio.file.Files;
import java.nio.file.Path;
import java.util.ArrayList;
import java.util.List;
import java.util.regex.Matcher;
import java.util.regex.Pattern;

/** The document: each test of an edge names the sentence for which it stands. */
final class Doc {
    private static final String TEXT = wordsOf(System.getProperty("doc", "../shared/DOC.md"));
    private static final boolean[] IS_NAMED = new boolean[TEXT.length()];

    private Doc() { }

    private static String wordsOf(String path) {
        try {
            return Files.readString(Path.of(path)).replaceAll("\\s+", " ");
        } catch (IOException e) {
            throw new IllegalStateException(e);
        }
    }

    /** What is asked from now on stands for this sentence, which must stand in the document. */
    static void says(String sentence) {
        Check.about(sentence);
        int at = TEXT.indexOf(sentence);
        Check.holds("the document says so", at >= 0);
        for (int i = 0; at >= 0 && i < sentence.length(); i++) {
            IS_NAMED[at + i] = true;
        }
    }

    /** Every word till what is not promised must have been named by a test; FaceTest has the face. */
    static void everySentenceIsNamed() {
        Check.about("every sentence has a test");
        List<String> left = new ArrayList<>();
        int end = TEXT.indexOf("## Not promised");
        StringBuilder rest = new StringBuilder();
        for (int i = TEXT.indexOf("## What it is"); i < end; i++) {
            rest.append(IS_NAMED[i] ? '\u0001' : TEXT.charAt(i));
        }
        String text = rest.toString()
            .replaceAll("```java public final class TwoKeys .*? } ```", "\u0001")
            .replaceAll("## What it is|## The public face|## Terms|==== [0-9]|```(text)?", "\u0001")
            .replaceAll("## Promise [0-9]+: [A-Za-z ]+", "\u0001")
            .replaceAll("Ahead of the calls [^.]* the interface says: ---- [a-z, ]+\\.", "\u0001");
        Matcher m = Pattern.compile("[^\u0001]*[A-Za-z0-9][^\u0001]*").matcher(text);
        while (m.find()) {
            left.add(m.group().trim());
        }
        Check.holds("these have none: " + left, left.isEmpty());
    }
}
