import java.lang.reflect.InvocationTargetException;
import java.lang.reflect.Method;
import java.util.HashMap;
import java.util.Map;

/** Makes a call told as words ("put", "1", "7") on an object, and tells its answer as a text. */
final class Calls {
    private final Map<String, Method> methods = new HashMap<>();

    Calls(Class<?> face) {
        for (Method method : face.getDeclaredMethods()) {
            if (java.lang.reflect.Modifier.isPublic(method.getModifiers())) {
                method.setAccessible(true);
                methods.put(method.getName(), method);
            }
        }
    }

    /** An exception is told by its very class, so that one which the machine throws shows. */
    String answer(Object object, String name, String... words) {
        Method method = methods.get(name);
        if (method == null || method.getParameterCount() != words.length) {
            throw new IllegalArgumentException("no such call: " + name);
        }
        Object[] arguments = new Object[words.length];
        for (int i = 0; i < words.length; i++) {
            arguments[i] = argument(method.getParameterTypes()[i], words[i]);
        }
        try {
            return String.valueOf(method.invoke(object, arguments));
        } catch (InvocationTargetException thrown) {
            return "throws." + thrown.getCause().getClass().getSimpleName();
        } catch (IllegalAccessException impossible) {
            throw new IllegalStateException(impossible);
        }
    }

    private static Object argument(Class<?> type, String word) {
        if (type == boolean.class) {
            return Boolean.valueOf(word);
        }
        return type == long.class ? (Object) Long.valueOf(word) : (Object) Integer.valueOf(word);
    }
}
