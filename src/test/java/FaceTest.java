import java.io.IOException;
import java.lang.reflect.Constructor;
import java.lang.reflect.Field;
import java.lang.reflect.Method;
import java.lang.reflect.Modifier;
import java.nio.file.Files;
import java.nio.file.Path;
import java.util.ArrayList;
import java.util.List;
import java.util.TreeSet;
import java.util.regex.Matcher;
import java.util.regex.Pattern;

/** The class has the document's face and nothing else, and its file keeps to what can be looked up in LANGUAGE.md. */
public final class FaceTest {
    private static final String DOC = read(System.getProperty("doc", "../shared/DOC.md"));
    /** The methods that the document's face has, as signature() writes them. */
    private static final TreeSet<String> FACE = new TreeSet<>();
    private static final TreeSet<String> NAMES = new TreeSet<>();
    private static final List<String> LIBRARY = List.of("Arrays.fill", "Arrays.copyOf", "Arrays.copyOfRange", "System.arraycopy",
        "Math.max", "Math.min", "Math.abs", "Integer.bitCount");
    /** Its constants, with their values. */
    private static final TreeSet<String> CONSTANTS = new TreeSet<>();

    public static void main(String[] args) throws IllegalAccessException {
        readFace();
        members();
        inside();
        source();
        Check.end();
    }

    private static String read(String path) {
        try {
            return Files.readString(Path.of(path));
        } catch (IOException e) {
            throw new IllegalStateException(e);
        }
    }

    private static void readFace() {
        String face = DOC.substring(DOC.indexOf("```java"), DOC.indexOf("## Terms"));
        Matcher methods = Pattern.compile("public (int|long) (\\w+)\\(([^)]*)\\);").matcher(face);
        while (methods.find()) {
            String types = methods.group(3).replaceAll(" \\w+(?=,|$)", "").replace(" ", "");
            FACE.add(methods.group(1) + " " + methods.group(2) + "(" + types + ")");
            NAMES.add(methods.group(2));
        }
        Matcher rows = Pattern.compile("public static final (int|long) ([^;]*);").matcher(face);
        while (rows.find()) {
            for (String constant : rows.group(2).split(", ")) CONSTANTS.add(rows.group(1) + " " + constant.replaceAll("L$", ""));
        }
        Check.due("methods in the document", FACE.size(), 33);
        Check.due("constants in the document", CONSTANTS.size(), 5);
    }

    private static void members() throws IllegalAccessException {
        TreeSet<String> face = new TreeSet<>();
        for (Method m : TwoKeys.class.getDeclaredMethods()) {
            if (Modifier.isPrivate(m.getModifiers())) {
                Check.holds(m + " has a name of its own", !NAMES.contains(m.getName()));
            } else {
                Check.holds(m + " is public", Modifier.isPublic(m.getModifiers()) && !Modifier.isStatic(m.getModifiers()));
                face.add(signature(m));
            }
        }
        Check.holds("the face: " + face + " / " + FACE, face.equals(FACE));
        TreeSet<String> constants = new TreeSet<>();
        for (Field f : TwoKeys.class.getDeclaredFields()) {
            if (!Modifier.isPrivate(f.getModifiers())) {
                Check.holds(f + " is a constant", f.toString().startsWith("public static final "));
                constants.add(f.getType() + " " + f.getName() + " = " + f.get(null));
            }
        }
        Check.holds("the constants: " + constants + " / " + CONSTANTS, constants.equals(CONSTANTS));
        Constructor<?>[] made = TwoKeys.class.getDeclaredConstructors();
        Check.holds("one constructor", made.length == 1 && made[0].toString().equals("public TwoKeys()"));
        Check.holds("public and final", Modifier.toString(TwoKeys.class.getModifiers()).equals("public final"));
    }

    private static String signature(Method m) {
        List<String> types = new ArrayList<>();
        for (Class<?> c : m.getParameterTypes()) {
            types.add(c.getName());
        }
        return m.getReturnType() + " " + m.getName() + "(" + String.join(",", types) + ")";
    }

    private static void inside() {
        Class<?>[] classes = TwoKeys.class.getDeclaredClasses();
        Check.holds("at most twelve classes", classes.length < 12);
        for (Class<?> c : classes) {
            Check.holds(c + " is static", Modifier.isStatic(c.getModifiers()) && !Modifier.isPublic(c.getModifiers()));
            int fields = 0;
            for (Field f : c.getDeclaredFields()) {
                boolean isStatic = Modifier.isStatic(f.getModifiers());
                Check.holds(f + " is no static state", !isStatic || Modifier.isFinal(f.getModifiers()));
                fields += isStatic ? 0 : 1;
            }
            Check.holds(c + " has few fields", fields <= 20);
            for (Method m : c.getDeclaredMethods()) {
                Check.holds(m + " has few parameters", m.getParameterCount() <= 7);
                Check.holds(m + " has a name of its own", !NAMES.contains(m.getName()));
            }
        }
        for (Field f : TwoKeys.class.getDeclaredFields()) {
            Check.holds(f + " is no static state", !Modifier.isStatic(f.getModifiers()) || Modifier.isFinal(f.getModifiers()));
        }
    }

    private static void source() {
        String all = read(System.getProperty("source", "src/main/java/TwoKeys.java"));
        String code = all.replaceAll("(?s)/\\*.*?\\*/", "").replaceAll("//[^\n]*", "").replaceAll("\"[^\"]*\"", "");
        Matcher no = Pattern.compile("\\b(throw|try|catch|finally|synchronized|assert|volatile|native|package|\\w*Exact)\\b|->|::|@")
            .matcher(code);
        Check.holds("a word that the language leaves out", !no.find());
        Matcher imports = Pattern.compile("import ([^;]*);").matcher(code);
        while (imports.find()) {
            Check.holds("import " + imports.group(1), imports.group(1).equals("java.util.Arrays"));
        }
        Check.holds("plain characters", all.chars().allMatch(c -> c == '\n' || c >= 32 && c < 127));
        Matcher library = Pattern.compile("\\b(Arrays|System|Math|Integer|Long|String|Character)\\.\\w+").matcher(code);
        while (library.find()) {
            Check.holds(library.group() + " stands in the list", LIBRARY.contains(library.group()));
        }
        methodsAreShort(code);
    }

    /** A method ends with the first brace that stands where its head does. */
    private static void methodsAreShort(String code) {
        String[] lines = code.split("\n");
        for (int i = 0; i < lines.length; i++) {
            if (!lines[i].matches("( {4}){1,2}\\S.*\\) \\{")) continue;
            String end = lines[i].replaceAll("\\S.*", "}");
            int j = i;
            while (j < lines.length && !lines[j].equals(end)) j++;
            Check.holds(lines[i] + " has " + (j - i + 1) + " lines", j - i + 1 <= 60);
        }
    }
}
