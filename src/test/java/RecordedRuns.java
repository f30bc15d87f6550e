import java.io.IOException;
import java.nio.file.Files;
import java.nio.file.Path;
import java.util.List;

/** Makes the calls of recorded runs, and compares each answer with that of the model (tools/model.py). */
public final class RecordedRuns {
    public static void main(String[] args) throws IOException {
        List<String> lines = Files.readAllLines(Path.of(args.length > 0 ? args[0] : "src/test/data/runs.txt"));
        Rangehold object = null;
        String run = "";
        int calls = 0;
        int wrong = 0;
        boolean isLeft = false;
        for (String line : lines) {
            if (line.startsWith("seed ")) {
                run = line;
                object = new Rangehold();
                isLeft = false;
            } else if (!isLeft) {
                calls++;
                String[] words = line.split(" = ");
                String got = answer(object, words[0].split(" "));
                if (!got.equals(words[1])) {
                    System.out.println(run + ": " + words[0] + " answered " + got + ", due is " + words[1]);
                    wrong++;
                    isLeft = true;
                }
            }
        }
        System.out.println("RecordedRuns: " + calls + " calls, " + wrong + " runs with a wrong answer");
        if (wrong != 0 || calls == 0) {
            System.exit(1);
        }
    }

    private static String answer(Rangehold object, String[] words) {
        long[] numbers = new long[words.length - 1];
        for (int i = 0; i < numbers.length; i++) {
            numbers[i] = Long.parseLong(words[i + 1]);
        }
        return Calls.answer(object, words[0], numbers);
    }
}
