import java.io.IOException;
import java.lang.reflect.InvocationTargetException;
import java.lang.reflect.Method;
import java.lang.reflect.Modifier;
import java.nio.file.Files;
import java.nio.file.Path;
import java.util.HashMap;
import java.util.List;
import java.util.Map;

/** Makes the calls of recorded runs, and compares each answer with that of the model (tools/model.py). */
public final class RecordedRuns {
    private static final Map<String, Method> METHODS = new HashMap<>();

    public static void main(String[] args) throws IOException, IllegalAccessException {
        for (Method method : Rangehold.class.getDeclaredMethods()) {
            if (Modifier.isPublic(method.getModifiers())) {
                METHODS.put(method.getName(), method);
            }
        }
        List<String> lines = Files.readAllLines(Path.of(args.length > 0 ? args[0] : "src/test/data/runs.txt"));
        Rangehold object = null;
        String run = "";
        int calls = 0;
        int wrong = 0;
        boolean isLeft = false;
        for (String line : lines) {
            if (line.startsWith("seed ")) {
                run = line;
                object = new Rangehold();
                isLeft = false;
            } else if (!isLeft) {
                calls++;
                String[] words = line.split(" = ");
                String got = answer(object, words[0].split(" "));
                if (!got.equals(words[1])) {
                    System.out.println(run + ": " + words[0] + " answered " + got + ", due is " + words[1]);
                    wrong++;
                    isLeft = true;
                }
            }
        }
        System.out.println("RecordedRuns: " + calls + " calls, " + wrong + " runs with a wrong answer");
        if (wrong != 0 || calls == 0) {
            System.exit(1);
        }
    }

    private static String answer(Rangehold object, String[] words) throws IllegalAccessException {
        Method method = METHODS.get(words[0]);
        Class<?>[] types = method.getParameterTypes();
        Object[] arguments = new Object[types.length];
        for (int i = 0; i < types.length; i++) {
            long it = Long.parseLong(words[i + 1]);
            if (types[i] == int.class) {
                arguments[i] = (int) it;
            } else if (types[i] == boolean.class) {
                arguments[i] = it != 0;
            } else {
                arguments[i] = it;
            }
        }
        try {
            Object it = method.invoke(object, arguments);
            if (it == null) {
                return "void";
            }
            if (it instanceof Boolean) {
                return (Boolean) it ? "1" : "0";
            }
            if (it instanceof Double) {
                return "" + Double.doubleToLongBits((Double) it);
            }
            return it instanceof Float ? "" + Float.floatToIntBits((Float) it) : it.toString();
        } catch (InvocationTargetException e) {
            return e.getCause().getClass().getSimpleName();
        }
    }
}
