import java.io.IOException;
import java.lang.reflect.Constructor;
import java.lang.reflect.Field;
import java.lang.reflect.Method;
import java.lang.reflect.Modifier;
import java.nio.file.Files;
import java.nio.file.Path;
import java.util.ArrayList;
import java.util.List;
import java.util.TreeSet;
import java.util.regex.Matcher;
import java.util.regex.Pattern;

/** The class has the document's face and nothing else, and its file keeps to what can be looked up in LANGUAGE.md. */
public final class FaceTest {
    private static final String FACE =
        "int people(int) int speak(int,int,int) int told(int,int,int) int chest(int,int) int set(int,int,int) "
        + "int chestTold(int,int) int feed(int) int text() int force(int) int lay(int,int,int) int mayLay(int,int) "
        + "int lawful(int) int best(int,int) int move() int quarrel(int) int peace(int) int in(int) int first() "
        + "int worth(int) int opened(int) int band(int,int) int judge(int) int place(int) int drawn(int) "
        + "long chance(int,int,int) int image() int back() int count(int) int sheet(int,int,int) int cell(int,int,int) "
        + "int copy(int,int,int,int,int) int speaks(int,int,int,int) int taken(int,int)";
    private static final String CONSTANTS = "int BAD,int FULL,int NONE,int STATE,long NO";

    public static void main(String[] args) throws IOException {
        members();
        inside();
        source();
        Check.end();
    }

    private static void members() {
        TreeSet<String> face = new TreeSet<>();
        TreeSet<String> names = new TreeSet<>();
        for (Method m : TwoKeys.class.getDeclaredMethods()) {
            if (!Modifier.isPrivate(m.getModifiers())) {
                Check.holds(m + " is public", Modifier.isPublic(m.getModifiers()) && !Modifier.isStatic(m.getModifiers()));
                face.add(signature(m));
                names.add(m.getName());
            }
        }
        Check.holds("the face: " + face, face.equals(new TreeSet<>(List.of(FACE.split("(?<=\\)) ")))));
        for (Method m : TwoKeys.class.getDeclaredMethods()) {
            if (Modifier.isPrivate(m.getModifiers())) {
                Check.holds(m + " has a name of its own", !names.contains(m.getName()));
            }
        }
        TreeSet<String> constants = new TreeSet<>();
        for (Field f : TwoKeys.class.getDeclaredFields()) {
            if (!Modifier.isPrivate(f.getModifiers())) {
                Check.holds(f + " is a constant", f.toString().startsWith("public static final "));
                constants.add(f.getType() + " " + f.getName());
            }
        }
        Check.holds("the constants: " + constants, String.join(",", constants).equals(CONSTANTS));
        Constructor<?>[] made = TwoKeys.class.getDeclaredConstructors();
        Check.holds("one constructor", made.length == 1 && made[0].toString().equals("public TwoKeys()"));
        Check.holds("public and final", Modifier.toString(TwoKeys.class.getModifiers()).equals("public final"));
    }

    private static String signature(Method m) {
        List<String> types = new ArrayList<>();
        for (Class<?> c : m.getParameterTypes()) {
            types.add(c.getName());
        }
        return m.getReturnType() + " " + m.getName() + "(" + String.join(",", types) + ")";
    }

    private static void inside() {
        Class<?>[] classes = TwoKeys.class.getDeclaredClasses();
        Check.holds("at most twelve classes", classes.length < 12);
        for (Class<?> c : classes) {
            Check.holds(c + " is static", Modifier.isStatic(c.getModifiers()) && !Modifier.isPublic(c.getModifiers()));
            int fields = 0;
            for (Field f : c.getDeclaredFields()) {
                boolean isStatic = Modifier.isStatic(f.getModifiers());
                Check.holds(f + " is no static state", !isStatic || Modifier.isFinal(f.getModifiers()));
                fields += isStatic ? 0 : 1;
            }
            Check.holds(c + " has few fields", fields <= 20);
            for (Method m : c.getDeclaredMethods()) {
                Check.holds(m + " has few parameters", m.getParameterCount() <= 7);
                Check.holds(m + " has a name of its own", !FACE.contains(" " + m.getName() + "("));
            }
        }
        for (Field f : TwoKeys.class.getDeclaredFields()) {
            Check.holds(f + " is no static state", !Modifier.isStatic(f.getModifiers()) || Modifier.isFinal(f.getModifiers()));
        }
    }

    private static void source() throws IOException {
        String all = Files.readString(Path.of(System.getProperty("source", "src/main/java/TwoKeys.java")));
        String code = all.replaceAll("(?s)/\\*.*?\\*/", "").replaceAll("//[^\n]*", "").replaceAll("\"[^\"]*\"", "");
        Matcher no = Pattern.compile("\\b(throw|try|catch|finally|synchronized|assert|volatile|native|package|Exact)\\b|->|::|@")
            .matcher(code);
        Check.holds("a word that the language leaves out", !no.find());
        Matcher imports = Pattern.compile("import ([^;]*);").matcher(code);
        while (imports.find()) {
            Check.holds("import " + imports.group(1), imports.group(1).equals("java.util.Arrays"));
        }
        Check.holds("plain characters", all.chars().allMatch(c -> c == '\n' || c >= 32 && c < 127));
    }
}
