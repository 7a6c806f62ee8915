import java.lang.reflect.InvocationTargetException;
import java.lang.reflect.Method;
import java.util.HashMap;
import java.util.Map;

/** A DialGarden whose calls are made by name, and no more of them than the document has promises for. */
final class CountedGarden {
    static final int CALLS = 512;
    /** What a call that threw is said to have answered: no call may answer it. */
    static final long THREW = Long.MIN_VALUE;
    private static final Map<String, Method> METHODS = methods();

    private final DialGarden garden = new DialGarden();
    private int calls = 0;

    private static Map<String, Method> methods() {
        Map<String, Method> all = new HashMap<>();
        for (Method method : DialGarden.class.getMethods()) {
            if (method.getDeclaringClass() == DialGarden.class) all.put(method.getName(), method);
        }
        return all;
    }

    long ask(String name, long... arguments) {
        if (++calls > CALLS) throw new IllegalStateException("a test makes more than " + CALLS + " calls");
        Method method = METHODS.get(name);
        if (method == null) throw new IllegalArgumentException("the class has no call " + name);
        Class<?>[] types = method.getParameterTypes();
        if (types.length != arguments.length) throw new IllegalArgumentException(name + " takes " + types.length);
        Object[] values = new Object[types.length];
        for (int i = 0; i < types.length; i++) {
            if (types[i] == long.class) values[i] = arguments[i];
            else values[i] = Math.toIntExact(arguments[i]);
        }
        try {
            return ((Number) method.invoke(garden, values)).longValue();
        } catch (InvocationTargetException thrown) {
            System.out.println(name + " threw " + thrown.getCause());
            return THREW;
        } catch (IllegalAccessException closed) {
            throw new IllegalStateException(closed);
        }
    }

    /** The answer to the last of the call's times. */
    long make(Call call) {
        long answer = THREW;
        for (int i = 0; i < call.times; i++) answer = ask(call.name, call.arguments);
        return answer;
    }
}
