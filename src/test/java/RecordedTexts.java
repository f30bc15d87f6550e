import java.io.IOException;
import java.nio.file.Files;
import java.nio.file.Path;

/** The first errors of drawn texts, as tools/grammar.py found them by the document's grammar alone. */
public final class RecordedTexts extends Checks {
    public static void main(String[] args) throws IOException {
        for (String line : Files.readAllLines(Path.of(args.length > 0 ? args[0] : "src/test/data/texts.txt"))) {
            check(line.split(" "));
        }
        finish("RecordedTexts");
    }

    /** The text in hex, the programs of the house, the kind of the first error and its place. */
    private static void check(String[] parts) {
        Rangehold x = new Rangehold();
        String[] names = parts[1].equals("-") ? new String[0] : parts[1].split(",");
        for (String name : names) {
            put(x, "tx " + name + " { }");
        }
        is("programs in the house", x.load(), names.length);
        StringBuilder text = new StringBuilder();
        for (int i = 0; i < parts[0].length(); i += 2) {
            text.append((char) Integer.parseInt(parts[0].substring(i, i + 2), 16));
        }
        put(x, text.toString());
        long kind = Long.parseLong(parts[2]);
        is("errorKind of " + text + " beside " + parts[1], x.errorKind(), kind);
        is("errorPlace of " + text + " beside " + parts[1], x.errorPlace(), Long.parseLong(parts[3]));
        is("load throws with an error: " + text, thrownBy(() -> x.load()) == BAD_STATE, kind != 0);
    }
}
