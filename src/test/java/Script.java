import java.lang.reflect.InvocationTargetException;
import java.lang.reflect.Method;
import java.util.HashMap;
import java.util.Map;

/** Calls that are written as texts, such as "run(9, false)", made on the class or on the model of it. */
final class Script {
    private static final Map<String, Method> FOUND = new HashMap<>();

    private Script() {
    }

    /** The answer, or the simple name of the exception that was thrown; an empty text for a call without an answer. */
    static Object answer(Object on, String call) {
        int open = call.indexOf('(');
        if (open < 0 || !call.endsWith(")")) {
            throw new IllegalStateException("no call: " + call);
        }
        Method method = methodOf(on.getClass(), call.substring(0, open));
        String inside = call.substring(open + 1, call.length() - 1);
        try {
            Object answer = method.invoke(on, valuesOf(method, inside.isEmpty() ? new String[0] : inside.split(", ")));
            return answer == null ? "" : answer;
        } catch (InvocationTargetException e) {
            return e.getCause().getClass().getSimpleName();
        } catch (IllegalAccessException e) {
            throw new IllegalStateException("not to be called: " + call, e);
        }
    }

    private static Method methodOf(Class<?> of, String name) {
        String key = of.getName() + " " + name;
        if (!FOUND.containsKey(key)) {
            for (Method m : of.getDeclaredMethods()) {
                if (m.getName().equals(name)) {
                    FOUND.put(key, m);
                }
            }
        }
        if (!FOUND.containsKey(key)) {
            throw new IllegalStateException("there is no " + name);
        }
        return FOUND.get(key);
    }

    private static Object[] valuesOf(Method method, String[] texts) {
        Class<?>[] types = method.getParameterTypes();
        if (types.length != texts.length) {
            throw new IllegalStateException("other values than " + method);
        }
        Object[] values = new Object[texts.length];
        for (int n = 0; n < texts.length; n++) {
            boolean truth = texts[n].equals("true") || texts[n].equals("false");
            if (truth != (types[n] == boolean.class)) {
                throw new IllegalStateException("other values than " + method);
            }
            values[n] = truth ? (Object) Boolean.valueOf(texts[n]) : (Object) Integer.valueOf(texts[n]);
        }
        return values;
    }
}
