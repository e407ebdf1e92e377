import java.lang.reflect.InvocationTargetException;
import java.lang.reflect.Method;
import java.lang.reflect.Modifier;
import java.util.Arrays;
import java.util.Comparator;
import java.util.Random;

/** Every call with the least, the greatest and other odd numbers, in towns of each sort: none throws. */
public final class WildTest extends Edge {
    private static final int[] NUMBERS = {LEAST, LEAST + 1, -129, -15, -2, -1, 0, 1, 2, 3, 4, 5, 6, 7, 9, 12, 13, 14, 15, 31, 32,
        38, 39, 40, 41, 63, 64, 127, 160, 255, 256, 999, 1000, 65536, 1 << 30, GREATEST - 2, GREATEST - 1, GREATEST};
    private static final Town[] TOWNS = {NEW, FURNISHED, LIVED, CROWDED, FULL_TAPE, STUCK};
    /** A town takes 300 calls at most, and an object has 512. */
    private static final int CALLS = 200;
    private static final int OF_EACH = 2000;

    private WildTest() { }

    public static void main(String[] args) throws IllegalAccessException {
        Random random = new Random(20261118);
        Method[] face = face();
        for (Method m : face) {
            for (Town town : TOWNS) one(m, town, random);
        }
        for (Town town : TOWNS) all(face, town, random);
        Check.end();
    }

    /** In an order of its own, so that the same numbers come to the same calls on every machine. */
    private static Method[] face() {
        return Arrays.stream(TwoKeys.class.getDeclaredMethods())
            .filter(m -> Modifier.isPublic(m.getModifiers()))
            .sorted(Comparator.comparing(Method::getName))
            .toArray(Method[]::new);
    }

    private static void one(Method m, Town town, Random random) throws IllegalAccessException {
        TwoKeys x = made(town);
        for (int i = 0; i < OF_EACH; i++) {
            if (i % CALLS == 0) x = made(town);
            call(m, x, random);
        }
    }

    /** All calls among one another, so that towns come to be that no single call makes. */
    private static void all(Method[] face, Town town, Random random) throws IllegalAccessException {
        for (int run = 0; run < 300; run++) {
            TwoKeys x = made(town);
            for (int i = 0; i < CALLS; i++) {
                call(face[random.nextInt(face.length)], x, random);
            }
        }
    }

    private static void call(Method m, TwoKeys x, Random random) throws IllegalAccessException {
        Object[] with = new Object[m.getParameterCount()];
        for (int i = 0; i < with.length; i++) {
            with[i] = random.nextInt(3) > 0 ? random.nextInt(6) : NUMBERS[random.nextInt(NUMBERS.length)];
        }
        boolean throwsNothing = true;
        try {
            m.invoke(x, with);
        } catch (InvocationTargetException e) {
            throwsNothing = false;
            System.out.println(e.getCause());
        }
        Check.holds(m.getName() + Arrays.toString(with) + " throws nothing", throwsNothing);
    }
}
