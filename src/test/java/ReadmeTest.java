import java.io.IOException;
import java.nio.file.Files;
import java.nio.file.Path;
import java.util.List;
import java.util.Map;
import java.util.TreeMap;
import java.util.regex.Matcher;
import java.util.regex.Pattern;

/** Makes the calls of the examples in README.md one behind the other, and holds their answers against what stands beside them. */
public final class ReadmeTest extends Checks {
    private static final Pattern LINE = Pattern.compile("(?:(int|long|Rangehold) (\\w+) = )?(?:house\\.(\\w+)\\((.*)\\)|new Rangehold\\(\\));\\s*(?:// (.*))?");

    private final Map<String, Long> variables = new TreeMap<>();
    private Rangehold house;

    public static void main(String[] args) throws IOException {
        new ReadmeTest().makeAll(Files.readAllLines(Path.of("README.md")));
        finish("ReadmeTest");
    }

    private void makeAll(List<String> lines) {
        boolean isExample = false;
        for (String line : lines) {
            if (line.startsWith("```")) {
                isExample = line.equals("```java");
            } else if (isExample) {
                make(line);
            }
        }
        is("there were calls", checks > 30, true);
    }

    private void make(String line) {
        Matcher parts = LINE.matcher(line);
        boolean isCall = parts.matches() && (house != null || parts.group(3) == null);
        is("a line of the README is a call: " + line, isCall, true);
        if (!isCall) {
            return;
        }
        String name = parts.group(3);
        if (name == null) {
            house = new Rangehold();
            return;
        }
        String answer = Calls.answer(house, name, numbers(parts.group(4)));
        is(line + " throws " + answer, answer.endsWith("Exception"), false);
        if (parts.group(1) != null && !answer.endsWith("Exception")) {
            is(line + " fits its type", parts.group(1), Calls.FACE.get(name).getReturnType().getName());
            variables.put(parts.group(2), Long.parseLong(answer));
        }
        String due = parts.group(5) == null ? "" : parts.group(5).split("[ :]")[0];
        if (isNumber(due)) {
            is(line, answer, "" + number(due));
        }
    }

    private static void is(String what, String got, String due) {
        is(what + " (" + got + ", due is " + due + ")", got.equals(due), true);
    }

    private long[] numbers(String words) {
        String[] parts = words.isEmpty() ? new String[0] : words.split(", ");
        long[] numbers = new long[parts.length];
        for (int i = 0; i < parts.length; i++) {
            is("an argument of the README: " + parts[i], isNumber(parts[i]), true);
            numbers[i] = isNumber(parts[i]) ? number(parts[i]) : 0;
        }
        return numbers;
    }

    private boolean isNumber(String word) {
        String plain = word.startsWith("1 << ") ? word.substring(5) : word;
        return plain.matches("-?\\d+|true|false") || variables.containsKey(plain) || constant(plain) != null;
    }

    private long number(String word) {
        if (word.startsWith("1 << ")) {
            return 1L << number(word.substring(5));
        }
        if (word.equals("true") || word.equals("false")) {
            return word.equals("true") ? 1 : 0;
        }
        return variables.containsKey(word) ? variables.get(word) : constant(word) != null ? constant(word) : Long.parseLong(word);
    }

    /** The value of a constant of the face; null without one of this name. */
    private static Long constant(String name) {
        try {
            return ((Number) Rangehold.class.getField(name.replace("Rangehold.", "")).get(null)).longValue();
        } catch (NoSuchFieldException | IllegalAccessException e) {
            return null;
        }
    }
}
