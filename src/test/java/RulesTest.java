import java.io.IOException;
import java.lang.reflect.Field;
import java.lang.reflect.Method;
import java.lang.reflect.Modifier;
import java.nio.file.Files;
import java.nio.file.Path;
import java.util.ArrayList;
import java.util.List;
import java.util.regex.Matcher;
import java.util.regex.Pattern;

/** Holds the source against what ../shared/LANGUAGE.md rules and a program can see, and against the document's face. */
public final class RulesTest {
    private static final String[] NEVER = {"->", "::", "synchronized", "finally", "assert ", "volatile", "catch", "Exact(", "hashCode", "toString",
        "getMessage", "Random", "Thread", "System.currentTimeMillis", "System.nanoTime", "String.format", "protected ", "@", "Object ", "while (true)", "for (;;)"};
    private static int wrong;

    private static void wrong(String what) {
        wrong++;
        System.out.println(what);
    }

    public static void main(String[] args) throws IOException {
        List<String> source = Files.readAllLines(Path.of("src/main/java/Rangehold.java"));
        checkWords(source);
        checkMethods(source);
        checkFace(source, Files.readAllLines(Path.of("../shared/DOC.md")));
        checkMembers();
        System.out.println("RulesTest: " + wrong + " wrong");
        if (wrong != 0) {
            System.exit(1);
        }
    }

    private static void checkWords(List<String> source) {
        int classes = 0;
        for (int i = 0; i < source.size(); i++) {
            String line = source.get(i);
            String code = line.trim().startsWith("/*") || line.trim().startsWith("//") ? "" : line.replaceAll("\"[^\"]*\"", "\"\"");
            for (String word : NEVER) {
                if (code.contains(word)) {
                    wrong("line " + (i + 1) + " has " + word);
                }
            }
            if (code.startsWith("import ") && !code.equals("import java.util.NoSuchElementException;")) {
                wrong("line " + (i + 1) + " imports");
            }
            if (code.contains("System.") && !code.contains("System.arraycopy(")) {
                wrong("line " + (i + 1) + " uses System");
            }
            for (int j = 0; j < line.length(); j++) {
                if (line.charAt(j) > 126) {
                    wrong("line " + (i + 1) + " has a sign above 126");
                }
            }
            classes += code.matches(".*\\b(class|enum|interface|record) [A-Z].*\\{") ? 1 : 0;
        }
        if (classes > 12) {
            wrong("there are " + classes + " classes");
        }
    }

    /** Methods end at a line with their brace alone, at the indentation of their head. */
    private static void checkMethods(List<String> source) {
        Pattern head = Pattern.compile("^( {4}| {8})((public|private|static|final) )*[\\w\\[\\]]+ ?[\\w]*\\((.*)\\)( throws .*)? \\{$");
        for (int i = 0; i < source.size(); i++) {
            Matcher matcher = head.matcher(source.get(i));
            if (!matcher.matches() || source.get(i).trim().matches("(if|for|while|switch|return|else).*")) {
                continue;
            }
            String end = matcher.group(1) + "}";
            int last = i;
            while (last < source.size() && !source.get(last).equals(end)) {
                last++;
            }
            if (last - i > 62) {
                wrong("line " + (i + 1) + ": a method of " + (last - i) + " lines");
            }
            if (matcher.group(4).split(",").length > 7) {
                wrong("line " + (i + 1) + ": more than seven parameters");
            }
        }
    }

    private static void checkFace(List<String> source, List<String> document) {
        List<String> face = new ArrayList<>();
        boolean inFace = false;
        for (String line : document) {
            if (line.startsWith("```")) {
                if (inFace) {
                    break;
                }
                inFace = line.equals("```java");
            } else if (inFace && line.startsWith("    public ")) {
                face.add(line.endsWith(");") || line.contains(") throws ") ? line.substring(0, line.length() - 1) + " {" : line);
            }
        }
        if (face.size() < 70) {
            wrong("the face was not found");
        }
        for (String line : face) {
            if (!source.contains(line)) {
                wrong("the face has no line" + line);
            }
        }
        int lines = 0;
        for (String line : source) {
            lines += line.startsWith("    public ") ? 1 : 0;
        }
        if (lines != face.size()) {
            wrong("the face has " + face.size() + " lines, the class " + lines);
        }
    }

    private static void checkMembers() {
        List<String> names = new ArrayList<>();
        for (Method method : Rangehold.class.getDeclaredMethods()) {
            if (Modifier.isPublic(method.getModifiers())) {
                names.add(method.getName());
            } else if (!Modifier.isPrivate(method.getModifiers())) {
                wrong(method + " is neither public nor private");
            }
        }
        List<Class<?>> classes = new ArrayList<>(List.of(Rangehold.class.getDeclaredClasses()));
        classes.add(Rangehold.class);
        for (Class<?> type : classes) {
            for (Method method : type.getDeclaredMethods()) {
                if (!Modifier.isPublic(method.getModifiers()) && names.contains(method.getName())) {
                    wrong(method + " bears the name of a public one");
                }
            }
            int fields = 0;
            for (Field field : type.getDeclaredFields()) {
                boolean isStatic = Modifier.isStatic(field.getModifiers());
                fields += isStatic ? 0 : 1;
                if (isStatic && !Modifier.isFinal(field.getModifiers())) {
                    wrong(field + " is static and not final");
                }
                if (type == Rangehold.class && !Modifier.isPublic(field.getModifiers()) && !Modifier.isPrivate(field.getModifiers())) {
                    wrong(field + " is neither public nor private");
                }
            }
            if (fields > 24) {
                wrong(type + " has " + fields + " fields");
            }
            if (type != Rangehold.class && !Modifier.isStatic(type.getModifiers())) {
                wrong(type + " is not static");
            }
        }
    }
}
