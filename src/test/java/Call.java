import java.lang.reflect.Method;
import java.util.Arrays;
import java.util.HashMap;
import java.util.Map;

/** One call of the face with its arguments, that can be made on the class and on its plain double. */
record Call(String name, int... a) {
    private static final Map<String, Method> METHODS = new HashMap<>();

    static Call of(String name, int... a) {
        return new Call(name, a);
    }

    /** On a GetsOutFirst, or on its plain double. */
    long on(Object lift) {
        String key = lift.getClass().getName() + name;
        try {
            Method method = METHODS.get(key);
            if (method == null) {
                Class<?>[] ints = new Class<?>[a.length];
                Arrays.fill(ints, int.class);
                method = lift.getClass().getDeclaredMethod(name, ints);
                METHODS.put(key, method);
            }
            return ((Number) method.invoke(lift, Arrays.stream(a).boxed().toArray())).longValue();
        } catch (ReflectiveOperationException e) {
            throw new IllegalStateException(written(), e);
        }
    }

    /** Whether the call may change what later calls answer. */
    boolean changes() {
        return switch (name) {
            case "rider", "set", "feed", "text", "force", "stands", "film", "image", "back", "sheet", "cell", "copy",
                "riders" -> true;
            default -> false;
        };
    }

    /** As it would be written. */
    String written() {
        StringBuilder s = new StringBuilder(name).append('(');
        for (int i = 0; i < a.length; i++) {
            s.append(i > 0 ? ", " : "").append(a[i]);
        }
        return s.append(')').toString();
    }
}
