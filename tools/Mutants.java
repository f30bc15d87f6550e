import java.io.ByteArrayOutputStream;
import java.io.FileOutputStream;
import java.io.IOException;
import java.io.OutputStream;
import java.io.PrintStream;
import java.lang.reflect.InvocationTargetException;
import java.net.URI;
import java.nio.file.Files;
import java.nio.file.Path;
import java.security.Permission;
import java.util.ArrayList;
import java.util.HashMap;
import java.util.List;
import java.util.Map;
import java.util.TreeMap;
import java.util.concurrent.ExecutionException;
import java.util.concurrent.FutureTask;
import java.util.concurrent.TimeUnit;
import java.util.concurrent.TimeoutException;
import java.util.regex.Matcher;
import java.util.regex.Pattern;
import java.util.stream.Stream;
import javax.tools.FileObject;
import javax.tools.ForwardingJavaFileManager;
import javax.tools.JavaCompiler;
import javax.tools.JavaFileManager;
import javax.tools.JavaFileObject;
import javax.tools.SimpleJavaFileObject;
import javax.tools.ToolProvider;

/**
 * Changes the class in one small way after the other (a sign, a number, a statement), and tells which changes no test notices.
 *
 *     java tools/Mutants.java [WORKERS] > survivors.txt
 *
 * It runs from the project's folder and takes some ten minutes with eight workers. What survives is to be read: many changes
 * make no difference (a guard that never bites), the others lack a test.
 */
public final class Mutants {
    private static final Path SOURCE = Path.of("src/main/java/Rangehold.java");
    private static final String[] TESTS = {"CommandEdges", "GroupEdges", "TransactionEdges", "ProgramEdges", "JobEdges", "KeeperEdges", "ChecksTest", "TimeEdges", "CallEdges", "PromiseTests"};
    private static final int SECONDS = 30;

    /** What is looked for in a line, and what takes its place. */
    private static final String[][] SWAPS = {{"(?<![<>=!-])<(?![<=])", "<="}, {"<=", "<"}, {"(?<![<>=-])>(?![>=])", ">="}, {">=", ">"}, {"==", "!="}, {"!=", "=="}, {"&&", "||"}, {"\\|\\|", "&&"},
        {"Math\\.max", "Math.min"}, {"Math\\.min", "Math.max"}, {"\\btrue\\b", "false"}, {"\\bfalse\\b", "true"}, {"\\+\\+", "--"}, {" \\+ ", " - "}, {" - ", " + "},
        {"IndexOutOfBoundsException\\(\\)", "IllegalArgumentException()"}, {"IllegalArgumentException\\(\\)", "IllegalStateException()"},
        {"IllegalStateException\\(\\)", "IllegalArgumentException()"}, {"NoSuchElementException\\(\\)", "IllegalArgumentException()"}};
    private static final Pattern NUMBER = Pattern.compile("(?<![\\w.\"'])(\\d+)(?![\\w.\"'])");

    private record Mutant(int line, String before, String after) {
    }

    public static void main(String[] args) throws Exception {
        if (args.length > 0 && args[0].equals("work")) {
            work(Path.of(args[1]), Integer.parseInt(args[2]), Integer.parseInt(args[3]), Path.of(args[4]));
        } else {
            drive(args.length > 0 ? Integer.parseInt(args[0]) : 8);
        }
    }

    // what is changed

    private static List<Mutant> mutants(List<String> source) {
        List<Mutant> all = new ArrayList<>();
        for (int i = 0; i < source.size(); i++) {
            String code = source.get(i).trim();
            boolean isCode = !code.isEmpty() && !code.startsWith("/") && !code.startsWith("*") && !code.startsWith("import");
            if (isCode && !code.startsWith("public static final") && !code.contains(" class ")) {
                swap(all, i, source.get(i));
                count(all, i, source.get(i));
                drop(all, i, source.get(i), code);
            }
        }
        return all;
    }

    private static void swap(List<Mutant> all, int line, String text) {
        for (String[] swap : SWAPS) {
            Matcher matcher = Pattern.compile(swap[0]).matcher(text);
            while (matcher.find()) {
                all.add(new Mutant(line, text, text.substring(0, matcher.start()) + swap[1] + text.substring(matcher.end())));
            }
        }
    }

    private static void count(List<Mutant> all, int line, String text) {
        Matcher matcher = NUMBER.matcher(text);
        boolean isCase = text.trim().matches("case \\d+:.*");
        while (matcher.find()) {
            long number = Long.parseLong(matcher.group(1));
            for (long other = number - 1; other <= number + 1; other += 2) {
                if (other >= 0 && !(isCase && matcher.start() < text.indexOf(':'))) {
                    all.add(new Mutant(line, text, text.substring(0, matcher.start()) + other + text.substring(matcher.end())));
                }
            }
        }
    }

    private static void drop(List<Mutant> all, int line, String text, String code) {
        boolean isDeclaration = code.matches("(int|long|boolean|byte|[A-Z]\\w*)(\\[\\])* \\w+( =.*|,.*|;)") || code.matches("(private|static|final|return|throw) .*");
        if (code.endsWith(";") && !isDeclaration && !code.matches("(for|case|default|while) ?.*")) {
            all.add(new Mutant(line, text, text.replace(code, ";")));
        }
        if (code.startsWith("throw ")) {
            all.add(new Mutant(line, text, text.replace(code, "if (NONE == 0) " + code)));
        }
        if (code.startsWith("if (") && code.endsWith(") {")) {
            String condition = code.substring(4, code.length() - 3);
            all.add(new Mutant(line, text, text.replace(code, "if (false && (" + condition + ")) {")));
            all.add(new Mutant(line, text, text.replace(code, "if (true || (" + condition + ")) {")));
        }
    }

    // the workers

    private static void drive(int workers) throws Exception {
        Path folder = Files.createTempDirectory("mutants");
        List<String> files = new ArrayList<>(List.of("-nowarn", "-d", folder.toString(), SOURCE.toString()));
        for (String from : new String[] {"src/test/support", "src/test/java"}) {
            try (Stream<Path> some = Files.list(Path.of(from))) {
                some.forEach(file -> files.add(file.toString()));
            }
        }
        ToolProvider.getSystemJavaCompiler().run(null, null, null, files.toArray(new String[0]));
        List<Mutant> all = mutants(Files.readAllLines(SOURCE));
        List<Thread> threads = new ArrayList<>();
        for (int i = 0; i < workers; i++) {
            int self = i;
            threads.add(new Thread(() -> driveOne(folder, self, workers, all.size())));
            threads.get(i).start();
        }
        Map<Integer, String> ends = new TreeMap<>();
        for (int i = 0; i < workers; i++) {
            threads.get(i).join();
            for (String line : Files.readAllLines(folder.resolve("ends" + i))) {
                ends.put(Integer.parseInt(line.split(" ")[0]), line.split(" ")[1]);
            }
        }
        Map<String, Integer> counts = new TreeMap<>();
        for (Map.Entry<Integer, String> end : ends.entrySet()) {
            counts.merge(end.getValue(), 1, Integer::sum);
            if (end.getValue().equals("survived")) {
                Mutant it = all.get(end.getKey());
                System.out.println(it.line + 1 + ": " + it.before.trim() + "   ==>   " + it.after.trim());
            }
        }
        System.out.println(all.size() + " mutants: " + counts);
    }

    /** A worker that hangs ends itself; another one goes on behind it. */
    private static void driveOne(Path folder, int self, int step, int many) {
        Path ends = folder.resolve("ends" + self);
        try {
            Files.createFile(ends);
            for (int next = self; next < many;) {
                new ProcessBuilder("java", "-Djava.security.manager=allow", "-XX:+UseSerialGC", "tools/Mutants.java", "work", folder.toString(), "" + next, "" + step, ends.toString())
                    .redirectErrorStream(true).redirectOutput(ProcessBuilder.Redirect.DISCARD).start().waitFor();
                List<String> lines = Files.readAllLines(ends);
                int last = lines.isEmpty() ? next : Integer.parseInt(lines.get(lines.size() - 1).split(" ")[0]);
                next = Math.max(next, last) + step;
            }
        } catch (IOException | InterruptedException e) {
            throw new IllegalStateException(e);
        }
    }

    private static void work(Path folder, int from, int step, Path ends) throws Exception {
        PrintStream out = new PrintStream(new FileOutputStream(ends.toFile(), true), true);
        System.setSecurityManager(new NoExit());
        System.setOut(new PrintStream(OutputStream.nullOutputStream()));
        List<String> source = Files.readAllLines(SOURCE);
        List<Mutant> all = mutants(source);
        for (int i = from; i < all.size(); i += step) {
            List<String> changed = new ArrayList<>(source);
            changed.set(all.get(i).line, all.get(i).after);
            Map<String, byte[]> classes = compile(String.join("\n", changed));
            out.println(i + " " + (classes == null ? "uncompiled" : end(classes, folder, out, i)));
        }
        Runtime.getRuntime().halt(0);
    }

    private static String end(Map<String, byte[]> classes, Path folder, PrintStream out, int number) throws InterruptedException {
        for (String test : TESTS) {
            FutureTask<Boolean> task = new FutureTask<>(() -> passes(new Loader(classes, folder), test));
            Thread thread = new Thread(task);
            thread.setDaemon(true);
            thread.start();
            try {
                if (!task.get(SECONDS, TimeUnit.SECONDS)) {
                    return "killed";
                }
            } catch (ExecutionException e) {
                return "killed";
            } catch (TimeoutException e) {
                out.println(number + " killed");
                Runtime.getRuntime().halt(1);
            }
        }
        return "survived";
    }

    private static boolean passes(Loader loader, String test) throws ReflectiveOperationException {
        try {
            loader.loadClass(test).getMethod("main", String[].class).invoke(null, (Object) new String[0]);
            return true;
        } catch (InvocationTargetException e) {
            return false;
        }
    }

    /** Lets a test that ends with an exit code throw instead. */
    private static final class NoExit extends SecurityManager {
        @Override
        public void checkPermission(Permission permission) {
        }

        @Override
        public void checkExit(int code) {
            throw new SecurityException();
        }
    }

    // classes that are in memory alone

    private static Map<String, byte[]> compile(String text) throws IOException {
        Map<String, InMemory> made = new HashMap<>();
        JavaCompiler compiler = ToolProvider.getSystemJavaCompiler();
        try (JavaFileManager files = new ForwardingJavaFileManager<JavaFileManager>(compiler.getStandardFileManager(problem -> { }, null, null)) {
            @Override
            public JavaFileObject getJavaFileForOutput(Location location, String name, JavaFileObject.Kind kind, FileObject beside) {
                made.put(name, new InMemory(name, kind, null));
                return made.get(name);
            }
        }) {
            List<JavaFileObject> units = List.of(new InMemory("Rangehold", JavaFileObject.Kind.SOURCE, text));
            if (!compiler.getTask(null, files, problem -> { }, List.of("-nowarn", "-proc:none"), null, units).call()) {
                return null;
            }
        }
        Map<String, byte[]> classes = new HashMap<>();
        made.forEach((name, file) -> classes.put(name, file.bytes.toByteArray()));
        return classes;
    }

    private static final class InMemory extends SimpleJavaFileObject {
        final ByteArrayOutputStream bytes = new ByteArrayOutputStream();
        final String text;

        InMemory(String name, Kind kind, String text) {
            super(URI.create("string:///" + name + kind.extension), kind);
            this.text = text;
        }

        @Override
        public CharSequence getCharContent(boolean ignoresErrors) {
            return text;
        }

        @Override
        public OutputStream openOutputStream() {
            return bytes;
        }
    }

    /** The changed class, and the tests as they are. */
    private static final class Loader extends ClassLoader {
        final Map<String, byte[]> classes;
        final Path folder;

        Loader(Map<String, byte[]> classes, Path folder) {
            this.classes = classes;
            this.folder = folder;
        }

        @Override
        protected synchronized Class<?> loadClass(String name, boolean resolves) throws ClassNotFoundException {
            Class<?> loaded = findLoadedClass(name);
            Path file = folder.resolve(name + ".class");
            byte[] bytes = classes.get(name);
            try {
                if (loaded == null && bytes == null && !name.contains(".") && Files.exists(file)) {
                    bytes = Files.readAllBytes(file);
                }
            } catch (IOException e) {
                throw new ClassNotFoundException(name);
            }
            return loaded != null ? loaded : bytes != null ? defineClass(name, bytes, 0, bytes.length) : super.loadClass(name, resolves);
        }
    }
}
