import java.lang.reflect.InvocationTargetException;
import java.lang.reflect.Method;
import java.lang.reflect.Modifier;
import java.util.ArrayList;
import java.util.Comparator;
import java.util.List;
import java.util.Random;

/** Calls with any arguments in any state throw what the face declares and nothing else, and leave the house in order. */
public final class WildTest {
    private static final int[] INTS = {Integer.MIN_VALUE, Integer.MAX_VALUE, -1, 0, 0, 0, 1, 1, 2, 3, 4, 5, 7, 8, 9, 14, 15, 16, 24, 30, 31, 32, 40, 80, 150, 500};
    private static final long[] LONGS = {Long.MIN_VALUE, Long.MAX_VALUE, -1, 0, 0, 1, 7, 8, 800, 9600, 1L << 31, -1L << 31, 0x7478206162207b20L};

    public static void main(String[] args) throws IllegalAccessException {
        List<Method> methods = new ArrayList<>();
        for (Method method : Rangehold.class.getDeclaredMethods()) {
            if (Modifier.isPublic(method.getModifiers())) {
                methods.add(method);
            }
        }
        methods.sort(Comparator.comparing(Method::getName));
        int wrong = 0;
        int fine = 0;
        for (int seed = 0; seed < 150; seed++) {
            Random random = new Random(seed);
            Rangehold object = new Rangehold();
            if (seed % 3 != 0) {
                prepare(object, random);
            }
            for (int i = 0; i < 512; i++) {
                Method method = methods.get(random.nextInt(methods.size()));
                Class<?> thrown = thrown(object, method, random);
                fine += thrown == null ? 1 : 0;
                if (thrown != null && !List.of(method.getExceptionTypes()).contains(thrown)) {
                    wrong++;
                    System.out.println("seed " + seed + ": " + method.getName() + " threw " + thrown);
                }
            }
            if (!object.agrees() || object.errors() != 0) {
                wrong++;
                System.out.println("seed " + seed + ": the house is not in order");
            }
        }
        System.out.println("WildTest: " + fine + " calls that threw nothing, " + wrong + " wrong");
        if (wrong != 0) {
            System.exit(1);
        }
    }

    private static void prepare(Rangehold object, Random random) {
        int nodes = 1 + random.nextInt(5);
        for (int i = 0; i < nodes; i++) {
            object.addNode(random.nextInt(7) - 3);
        }
        object.found((1 << nodes) - 1);
        object.settle(40);
        object.piece(random.nextInt(6));
        object.load();
        object.begin(0);
    }

    private static Class<?> thrown(Rangehold object, Method method, Random random) throws IllegalAccessException {
        Class<?>[] types = method.getParameterTypes();
        Object[] arguments = new Object[types.length];
        for (int i = 0; i < types.length; i++) {
            int number = random.nextBoolean() ? random.nextInt(3) : INTS[random.nextInt(INTS.length)];
            if (types[i] == int.class) {
                arguments[i] = number;
            } else if (types[i] == boolean.class) {
                arguments[i] = random.nextBoolean();
            } else {
                arguments[i] = random.nextBoolean() ? (long) number : LONGS[random.nextInt(LONGS.length)];
            }
        }
        try {
            method.invoke(object, arguments);
            return null;
        } catch (InvocationTargetException e) {
            return e.getCause().getClass();
        }
    }
}
