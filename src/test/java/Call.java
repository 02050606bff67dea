import java.lang.reflect.InvocationTargetException;
import java.lang.reflect.Method;
import java.util.HashMap;
import java.util.Map;

/** Calls by their texts, as "piece(0, 5)"; MIN and MAX are the least int and the most, 0x3fL is a number, too. */
final class Call {
    private static final Map<String, Method> FACE = new HashMap<>();

    static {
        for (Method m : WalkTheDike.class.getMethods()) {
            if (m.getDeclaringClass() == WalkTheDike.class) {
                FACE.put(m.getName(), m);
            }
        }
    }

    private Call() {
    }

    /** What an object answers to a call. */
    static long on(WalkTheDike x, String call) {
        Method m = FACE.get(call.substring(0, call.indexOf('(')));
        String inside = call.substring(call.indexOf('(') + 1, call.lastIndexOf(')')).trim();
        String[] numbers = inside.isEmpty() ? new String[0] : inside.split(", *");
        if (m == null || m.getParameterCount() != numbers.length) {
            throw new IllegalArgumentException("no such call: " + call);
        }
        Object[] values = new Object[numbers.length];
        for (int i = 0; i < numbers.length; i++) {
            long v = number(numbers[i]);
            values[i] = m.getParameterTypes()[i] == long.class ? (Object) v : (Object) Math.toIntExact(v);
        }
        try {
            return ((Number) m.invoke(x, values)).longValue();
        } catch (InvocationTargetException e) {
            throw new IllegalStateException(call + " threw", e.getCause());
        } catch (IllegalAccessException e) {
            throw new IllegalStateException(call, e);
        }
    }

    private static long number(String text) {
        return text.equals("MIN") ? Integer.MIN_VALUE : text.equals("MAX") ? Integer.MAX_VALUE 
            : Long.decode(text.endsWith("L") ? text.substring(0, text.length() - 1) : text);
    }
}
