import java.io.IOException;
import java.lang.reflect.InvocationTargetException;
import java.lang.reflect.Method;
import java.nio.file.Files;
import java.nio.file.Path;
import java.util.Set;
import java.util.TreeSet;
import java.util.regex.Matcher;
import java.util.regex.Pattern;

/** Makes the calls that README.md shows, and holds its face against the document and what it runs against .ci/run. */
public final class ReadmeTest {
    private static final Pattern BLOCK = Pattern.compile("(?s)```java\n(.*?)```");
    private static final String FRESH = "Fabricmap x = new Fabricmap();";
    /** A call, and behind it an answer that a remark may follow. */
    private static final Pattern CALL = Pattern.compile(
            "x\\.(\\w+)\\((.*)\\); +// (throws \\w+|true|false|-?[0-9.]+|'.')(: .+)?");
    private static final Check C = new Check();
    private static final Set<String> CALLED = new TreeSet<>();

    /** Takes the paths of README.md, of the document, of .ci/run and of the folder of tests. */
    public static void main(String[] args) throws IOException {
        String readme = Files.readString(Path.of(args[0]));
        face(readme, Files.readString(Path.of(args[1])));
        Matcher block = BLOCK.matcher(readme);
        while (block.find()) {
            if (!block.group(1).startsWith("public ")) {
                example(block.group(1).split("\n"));
            }
        }
        Set<String> methods = new TreeSet<>();
        for (Method method : Fabricmap.class.getMethods()) {
            if (method.getDeclaringClass() == Fabricmap.class) {
                methods.add(method.getName());
            }
        }
        C.due("the methods that the examples show", methods, () -> CALLED);
        tests(readme, Files.readString(Path.of(args[2])), Path.of(args[3]));
        C.end("ReadmeTest");
    }

    private static void face(String readme, String document) {
        Set<String> due = faceIn(document);
        C.due("the document's face", 41, () -> due.size());
        C.due("the face", due, () -> faceIn(readme));
    }

    private static Set<String> faceIn(String text) {
        Set<String> lines = new TreeSet<>();
        Matcher line = Pattern.compile("(?m)^ *(public .*\\);|public .*\\) throws .*;)$").matcher(text);
        while (line.find()) {
            lines.add(line.group(1));
        }
        return lines;
    }

    private static void example(String[] lines) {
        C.due("an example's first line", FRESH, () -> lines[0]);
        Fabricmap x = new Fabricmap();
        for (int i = 1; i < lines.length; i++) {
            String line = lines[i];
            Matcher call = CALL.matcher(line);
            boolean isCall = call.matches();
            C.due("a call with its answer: " + line, true, () -> isCall);
            if (isCall) {
                String name = call.group(1);
                String arguments = call.group(2);
                CALLED.add(name);
                C.due("README.md's " + line, call.group(3), () -> shown(x, name, arguments));
            }
        }
    }

    /** What a call answers, written as README.md does. */
    private static String shown(Fabricmap x, String name, String arguments) {
        String[] words = arguments.isEmpty() ? new String[0] : arguments.split(", ");
        try {
            Object answer = method(name, words.length).invoke(x, values(words));
            return answer instanceof Character ? "'" + answer + "'" : String.valueOf(answer);
        } catch (InvocationTargetException e) {
            return "throws " + e.getCause().getClass().getSimpleName();
        } catch (IllegalAccessException e) {
            throw new IllegalStateException(e);
        }
    }

    private static Method method(String name, int count) {
        for (Method method : Fabricmap.class.getMethods()) {
            if (method.getName().equals(name) && method.getParameterCount() == count) {
                return method;
            }
        }
        throw new IllegalStateException("there is no method " + name + " of " + count);
    }

    private static Object[] values(String[] words) {
        Object[] values = new Object[words.length];
        for (int i = 0; i < words.length; i++) {
            boolean isLetter = words[i].matches("'.'");
            values[i] = isLetter ? (Object) words[i].charAt(1) : (Object) Integer.valueOf(words[i]);
        }
        return values;
    }

    /** Each test of the folder is run by .ci/run and told by README.md. */
    private static void tests(String readme, String run, Path folder) throws IOException {
        try (var files = Files.list(folder)) {
            for (Path file : files.sorted().toList()) {
                String name = file.getFileName().toString().replace(".java", "");
                C.due(name + " is told by README.md", true, () -> readme.contains("`" + name));
                boolean isTest = Files.readString(file).contains("void main(String[] args)");
                C.due(name + ", if it is a test, is run by .ci/run", true, () -> !isTest || run.contains(name));
            }
        }
    }
}
