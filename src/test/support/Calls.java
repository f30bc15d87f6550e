import java.lang.reflect.InvocationTargetException;
import java.lang.reflect.Method;
import java.lang.reflect.Modifier;
import java.util.Map;
import java.util.TreeMap;

/** The calls of the face by their names, with numbers as arguments (a boolean is 0 or 1). */
final class Calls {
    static final Map<String, Method> FACE = new TreeMap<>();

    static {
        for (Method method : Rangehold.class.getDeclaredMethods()) {
            if (Modifier.isPublic(method.getModifiers())) {
                FACE.put(method.getName(), method);
            }
        }
    }

    private Calls() {
    }

    /** What a call answers: a number (of a double or float its bits), "void", or the name of what it throws. */
    static String answer(Rangehold x, String name, long... numbers) {
        try {
            Object it = make(x, name, numbers);
            if (it instanceof Boolean) {
                return (Boolean) it ? "1" : "0";
            }
            if (it instanceof Double) {
                return "" + Double.doubleToLongBits((Double) it);
            }
            return it instanceof Float ? "" + Float.floatToIntBits((Float) it) : it == null ? "void" : it.toString();
        } catch (RuntimeException e) {
            return e.getClass().getSimpleName();
        }
    }

    /** Makes a call, and throws what it throws. */
    static Object make(Rangehold x, String name, long... numbers) {
        Method method = FACE.get(name);
        Class<?>[] types = method.getParameterTypes();
        Object[] arguments = new Object[types.length];
        for (int i = 0; i < types.length; i++) {
            arguments[i] = types[i] == int.class ? (Object) (int) numbers[i] : types[i] == boolean.class ? (Object) (numbers[i] != 0) : (Object) numbers[i];
        }
        try {
            return method.invoke(x, arguments);
        } catch (InvocationTargetException e) {
            if (e.getCause() instanceof RuntimeException) {
                throw (RuntimeException) e.getCause();
            }
            throw (Error) e.getCause();
        } catch (IllegalAccessException e) {
            throw new AssertionError(e);
        }
    }
}
