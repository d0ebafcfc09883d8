import java.lang.reflect.Method;
import java.util.HashMap;
import java.util.Map;

/** The document's calls by their names, of PointShares or of PlainShares. */
final class Calls {
    private static final Map<Class<?>, Map<String, Method>> METHODS = new HashMap<>();

    private Calls() {
    }

    private static Method method(Class<?> type, String name) {
        Map<String, Method> methods = METHODS.get(type);
        if (methods == null) {
            methods = new HashMap<>();
            for (Method m : type.getMethods()) {
                if (m.getDeclaringClass() == type) {
                    m.setAccessible(true);
                    methods.put(m.getName(), m);
                }
            }
            METHODS.put(type, methods);
        }
        Method m = methods.get(name);
        if (m == null) {
            throw new IllegalArgumentException("no call " + name);
        }
        return m;
    }

    static Class<?>[] types(String name) {
        return method(PointShares.class, name).getParameterTypes();
    }

    /** Arguments are Integers, and Longs where the call wants a long. */
    static long answer(Object x, String name, Object... arguments) {
        try {
            return ((Number) method(x.getClass(), name).invoke(x, arguments)).longValue();
        } catch (ReflectiveOperationException e) {
            throw new IllegalStateException(name + java.util.Arrays.toString(arguments), e);
        }
    }
}
