import java.lang.reflect.InvocationTargetException;
import java.lang.reflect.Method;
import java.util.Arrays;
import java.util.HashMap;
import java.util.Map;

/** A new object, asked by calls as they are written, "blow(0, 5, 1)": never by more than the 512 that are promised. */
final class Asked {
    private static final int MOST_CALLS = 512;
    private static final Map<String, Method> FACE = new HashMap<>();

    static {
        for (Method m : ChurchOrgan.class.getMethods()) {
            if (m.getDeclaringClass() == ChurchOrgan.class) FACE.put(m.getName(), m);
        }
    }

    private final ChurchOrgan organ = new ChurchOrgan();
    private int calls = 0;

    int ask(String call) {
        int open = call.indexOf('(');
        String[] words = call.substring(open + 1, call.length() - 1).trim().split(" *, *");
        Method m = FACE.get(call.substring(0, open));
        Object[] arguments = new Object[m.getParameterCount()];
        for (int i = 0; i < arguments.length; i++) {
            Class<?> kind = m.getParameterTypes()[i];
            arguments[i] = kind == boolean.class ? (Object) Boolean.valueOf(words[i])
                : kind == long.class ? (Object) Long.decode(words[i]) : (Object) Integer.decode(words[i]);
        }
        return ask(m, arguments);
    }

    int asks(String name, Object... arguments) {
        return ask(FACE.get(name), arguments);
    }

    private int ask(Method m, Object[] arguments) {
        calls++;
        if (calls > MOST_CALLS) throw new IllegalStateException("the test asks more than " + MOST_CALLS + " calls");
        try {
            return (Integer) m.invoke(organ, arguments);
        } catch (InvocationTargetException e) {
            throw new IllegalStateException(m.getName() + Arrays.toString(arguments) + " threw", e.getCause());
        } catch (IllegalAccessException e) {
            throw new IllegalStateException(e);
        }
    }
}
