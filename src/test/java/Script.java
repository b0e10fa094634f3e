import java.lang.reflect.InvocationTargetException;
import java.lang.reflect.Method;
import java.util.Arrays;

/** Calls by name, so that the class and the model can be given the same ones. */
final class Script {
    private Script() {
    }

    /** Calls with a ';' between them, such as "clean 0 96"; "type TEXT" wipes and writes. */
    static void run(Object units, String script) {
        for (String line : script.split(";")) {
            String[] words = line.trim().split(" ");
            if (words[0].equals("type")) {
                call(units, "wipe");
                words[1].chars().forEach(letter -> call(units, "write", letter));
            } else if (!words[0].isEmpty()) {
                String[] arguments = Arrays.copyOfRange(words, 1, words.length);
                call(units, words[0], Arrays.stream(arguments).mapToLong(Long::parseLong).toArray());
            }
        }
    }

    static long call(Object units, String name, long... arguments) {
        Method method = methodOf(units.getClass(), name);
        Class<?>[] types = method.getParameterTypes();
        Object[] values = new Object[types.length];
        for (int k = 0; k < types.length; k++) {
            values[k] = valueOf(types[k], arguments[k]);
        }
        try {
            return ((Number) method.invoke(units, values)).longValue();
        } catch (IllegalAccessException | InvocationTargetException failed) {
            throw new IllegalStateException(told(name, arguments) + " failed", failed);
        }
    }

    static String told(String name, long... arguments) {
        return name + Arrays.toString(arguments);
    }

    private static Method methodOf(Class<?> type, String name) {
        for (Method method : type.getDeclaredMethods()) {
            if (method.getName().equals(name)) {
                return method;
            }
        }
        throw new IllegalStateException("no method " + name);
    }

    private static Object valueOf(Class<?> type, long value) {
        if (type == boolean.class) {
            return value != 0;
        }
        if (type == long.class) {
            return value;
        }
        return (int) value;
    }
}
