import java.lang.reflect.Method;
import java.lang.reflect.Modifier;
import java.util.Arrays;
import java.util.HashMap;
import java.util.Map;

/** A call of the document's face with its numbers, to be made on TwoKeys or PlainKeys. */
record FaceCall(String name, int... args) {
    private static final Map<Class<?>, Map<String, Method>> METHODS = new HashMap<>();

    long on(Object keys) {
        Method m = METHODS.computeIfAbsent(keys.getClass(), FaceCall::methodsOf).get(name);
        try {
            return ((Number) m.invoke(keys, Arrays.stream(args).boxed().toArray())).longValue();
        } catch (ReflectiveOperationException e) {
            throw new IllegalStateException(toString(), e);
        }
    }

    private static Map<String, Method> methodsOf(Class<?> of) {
        Map<String, Method> all = new HashMap<>();
        for (Method m : of.getDeclaredMethods()) {
            if (!Modifier.isPrivate(m.getModifiers())) {
                all.put(m.getName(), m);
            }
        }
        return all;
    }

    @Override
    public String toString() {
        return name + Arrays.toString(args).replace('[', '(').replace(']', ')');
    }
}
