import java.lang.reflect.Method;
import java.util.ArrayList;
import java.util.List;
import java.util.Random;
import java.util.Set;

/**
 * Calls with any arguments in any state throw what the face declares and nothing else, and leave the house in order.
 * A twin, of which nothing is asked and of which no call is made that throws, is like the house all the time.
 */
public final class WildTest {
    private static final int[] INTS = {Integer.MIN_VALUE, Integer.MAX_VALUE, -1, 0, 0, 0, 1, 1, 2, 3, 4, 5, 7, 8, 9, 14, 15, 16, 24, 30, 31, 32, 40, 80, 150, 500};
    private static final long[] LONGS = {Long.MIN_VALUE, Long.MAX_VALUE, -1, 0, 0, 1, 7, 8, 800, 9600, 1L << 31, -1L << 31, 0x7478206162207b20L};
    private static final Set<String> QUESTIONS = Set.of("nodeAt", "scanAt", "transactionAt", "operationAt", "askAt", "copyAt", "entryAt", "rangeAt", "versionAt", "intentAt",
        "resolved", "feedAt", "ownerOf", "valueAt", "heldAt", "errorKind", "errorPlace", "codeLength", "codeAt", "trialAt", "jobAt", "messageAt", "count", "agrees", "errors",
        "fineShare", "meanEntries");
    private static int wrong;
    private static int fine;

    public static void main(String[] args) {
        for (int seed = 0; seed < 150; seed++) {
            run(seed);
        }
        System.out.println("WildTest: " + fine + " calls that threw nothing, " + wrong + " wrong");
        if (wrong != 0) {
            System.exit(1);
        }
    }

    private static void wrong(int seed, String what) {
        wrong++;
        System.out.println("seed " + seed + ": " + what);
    }

    private static void run(int seed) {
        List<Method> methods = new ArrayList<>(Calls.FACE.values());
        Random random = new Random(seed);
        Rangehold object = new Rangehold();
        Rangehold twin = new Rangehold();
        if (seed % 3 != 0) {
            prepare(object, new Random(seed));
            prepare(twin, new Random(seed));
        }
        for (int i = 0; i < 512; i++) {
            Method method = methods.get(random.nextInt(methods.size()));
            long[] numbers = numbers(method.getParameterTypes(), random);
            Class<?> thrown = Checks.thrownBy(() -> Calls.make(object, method.getName(), numbers));
            if (thrown == null) {
                fine++;
                if (!QUESTIONS.contains(method.getName())) {
                    Calls.make(twin, method.getName(), numbers);
                }
            } else if (!List.of(method.getExceptionTypes()).contains(thrown)) {
                wrong(seed, method.getName() + " threw " + thrown);
            }
            if (i % 64 == 63 && !Snapshot.of(object).equals(Snapshot.of(twin))) {
                wrong(seed, "the twin differs in " + Snapshot.difference(Snapshot.of(twin), Snapshot.of(object)));
            }
        }
        if (!object.agrees() || object.errors() != 0) {
            wrong(seed, "the house is not in order");
        }
    }

    private static void prepare(Rangehold object, Random random) {
        int nodes = 1 + random.nextInt(5);
        for (int i = 0; i < nodes; i++) {
            object.addNode(random.nextInt(7) - 3);
        }
        object.found((1 << nodes) - 1);
        object.settle(40);
        object.piece(random.nextInt(6));
        object.load();
        object.begin(0);
    }

    private static long[] numbers(Class<?>[] types, Random random) {
        long[] numbers = new long[types.length];
        for (int i = 0; i < types.length; i++) {
            int number = random.nextBoolean() ? random.nextInt(3) : INTS[random.nextInt(INTS.length)];
            if (types[i] == int.class) {
                numbers[i] = number;
            } else if (types[i] == boolean.class) {
                numbers[i] = random.nextInt(2);
            } else {
                numbers[i] = random.nextBoolean() ? number : LONGS[random.nextInt(LONGS.length)];
            }
        }
        return numbers;
    }
}
