import java.lang.reflect.InvocationTargetException;
import java.lang.reflect.Method;
import java.util.HashMap;
import java.util.Map;

/** Makes a call told as words ("put", "1", "7") on an object, and tells its answer as a text. */
final class Calls {
    private final String thrower;
    private final Map<String, Method> methods = new HashMap<>();

    Calls(Class<?> face) {
        thrower = face.getName();
        for (Method method : face.getDeclaredMethods()) {
            if (java.lang.reflect.Modifier.isPublic(method.getModifiers())) {
                method.setAccessible(true);
                methods.put(method.getName(), method);
            }
        }
    }

    String answer(Object object, String name, String... words) {
        Method method = methods.get(name);
        if (method == null || method.getParameterCount() != words.length) {
            throw new IllegalArgumentException("no such call: " + name);
        }
        Object[] arguments = new Object[words.length];
        for (int i = 0; i < words.length; i++) {
            arguments[i] = argument(method.getParameterTypes()[i], words[i]);
        }
        try {
            return String.valueOf(method.invoke(object, arguments));
        } catch (InvocationTargetException thrown) {
            return told(thrown.getCause());
        } catch (IllegalAccessException impossible) {
            throw new IllegalStateException(impossible);
        }
    }

    // By its very class, and by where it came from: so one shows which the machine or the library
    // threw, even if its name is one of the document's.
    private String told(Throwable thrown) {
        StackTraceElement[] trace = thrown.getStackTrace();
        String name = "throws." + thrown.getClass().getSimpleName();
        boolean own = trace.length > 0 && trace[0].getClassName().startsWith(thrower);
        return own ? name : name + " (not by a throw of " + thrower + ")";
    }

    private static Object argument(Class<?> type, String word) {
        if (type == boolean.class) {
            return Boolean.valueOf(word);
        }
        return type == long.class ? (Object) Long.valueOf(word) : (Object) Integer.valueOf(word);
    }
}
