import java.lang.reflect.Method;
import java.util.HashMap;
import java.util.Map;

/** The calls by their numbers, so that one run can be asked of the class and of the model alike. */
final class Calls {
    static final String[] NAMES = {"point", "move", "sure", "put", "of", "bend", "carry", "off",
        "miss", "beyond", "lying", "drop", "rule", "triangle", "state", "within", "carried", "meet",
        "area", "thing", "sweep", "match", "cost", "left", "many", "keep", "back"};
    static final int[] ARGUMENTS = {4, 4, 2, 2, 2, 2, 4, 3, 2, 1, 1, 1, 2, 3, 1, 3, 5, 3, 2, 4, 1,
        2, 1, 1, 1, 0, 0};
    private static final Map<Class<?>, Method[]> METHODS = new HashMap<>();

    private Calls() {
    }

    static String text(int call, int... a) {
        StringBuilder s = new StringBuilder(NAMES[call]).append('(');
        for (int k = 0; k < ARGUMENTS[call]; k++) {
            s.append(k == 0 ? "" : ", ").append(a[k]);
        }
        return s.append(')').toString();
    }

    static int number(String name) {
        for (int call = 0; call < NAMES.length; call++) {
            if (NAMES[call].equals(name)) {
                return call;
            }
        }
        throw new IllegalArgumentException(name);
    }

    private static Method[] methodsOf(Class<?> asked) {
        Method[] methods = new Method[NAMES.length];
        for (Method m : asked.getDeclaredMethods()) {
            for (int call = 0; call < NAMES.length; call++) {
                if (m.getName().equals(NAMES[call]) && m.getParameterCount() == ARGUMENTS[call]) {
                    methods[call] = m;
                }
            }
        }
        return methods;
    }

    /** Where a call takes a boolean, an odd number stands for true. */
    static long ask(Object asked, int call, int... a) {
        Method m = METHODS.computeIfAbsent(asked.getClass(), Calls::methodsOf)[call];
        Class<?>[] types = m.getParameterTypes();
        Object[] arguments = new Object[types.length];
        for (int k = 0; k < types.length; k++) {
            arguments[k] = types[k] == boolean.class ? (Object) ((a[k] & 1) == 1) : a[k];
        }
        try {
            return ((Number) m.invoke(asked, arguments)).longValue();
        } catch (ReflectiveOperationException e) {
            throw new IllegalStateException(text(call, a) + " threw", e);
        }
    }
}
