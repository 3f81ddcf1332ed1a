import java.io.IOException;
import java.lang.reflect.Constructor;
import java.lang.reflect.Field;
import java.lang.reflect.Method;
import java.lang.reflect.Modifier;
import java.nio.file.Files;
import java.nio.file.Path;
import java.util.ArrayList;
import java.util.List;
import java.util.Set;
import java.util.TreeSet;
import java.util.regex.Matcher;
import java.util.regex.Pattern;

/** Holds the class's face against the document, and its text against what LANGUAGE.md forbids. */
public final class FaceTest {
    private static final Check C = new Check();

    /** Takes the document's path and the program's. */
    public static void main(String[] args) throws IOException {
        String document = Files.readString(Path.of(args[0]));
        String program = Files.readString(Path.of(args[1]));
        face(document);
        members(Fabricmap.class);
        for (Class<?> inside : Fabricmap.class.getDeclaredClasses()) {
            members(inside);
        }
        names();
        text(program);
        C.end("FaceTest");
    }

    private static void face(String document) {
        Set<String> due = new TreeSet<>();
        Matcher line = Pattern.compile("(?m)^    (public .*);$").matcher(document);
        while (line.find()) {
            due.add(line.group(1).replaceAll("\\b(int|char) \\w+(?=[,)])", "$1"));
        }
        Set<String> got = new TreeSet<>();
        for (Constructor<?> made : Fabricmap.class.getDeclaredConstructors()) {
            got.add(described(made.toGenericString()));
        }
        for (Method method : Fabricmap.class.getDeclaredMethods()) {
            if (!Modifier.isPrivate(method.getModifiers())) {
                got.add(described(method.toGenericString()));
            }
        }
        C.due("the face", due, () -> got);
        C.due("the face's size", 41, () -> got.size());
    }

    private static String described(String text) {
        return text.replace("Fabricmap.", "").replace("java.lang.", "").replace("java.util.", "")
                .replace(",", ", ").replaceAll(",\\s+", ", ");
    }

    private static void members(Class<?> type) {
        String name = type.getSimpleName();
        C.due(name + " is final", true, () -> Modifier.isFinal(type.getModifiers()));
        C.due(name + " has few fields", true, () -> instanceFields(type) <= 20);
        for (Field field : type.getDeclaredFields()) {
            int how = field.getModifiers();
            C.due(name + "." + field.getName() + " if static is final", true,
                    () -> !Modifier.isStatic(how) || Modifier.isFinal(how));
            C.due(name + "." + field.getName() + " is not to be seen", true,
                    () -> Modifier.isPrivate(how) || type != Fabricmap.class && !Modifier.isPublic(how));
        }
        for (Method method : type.getDeclaredMethods()) {
            C.due(name + "." + method.getName() + " takes few", true, () -> method.getParameterCount() <= 7);
        }
    }

    private static int instanceFields(Class<?> type) {
        int sum = 0;
        for (Field field : type.getDeclaredFields()) {
            sum += Modifier.isStatic(field.getModifiers()) ? 0 : 1;
        }
        return sum;
    }

    private static void names() {
        Set<String> face = new TreeSet<>();
        List<Method> others = new ArrayList<>();
        for (Method method : Fabricmap.class.getDeclaredMethods()) {
            if (Modifier.isPublic(method.getModifiers())) {
                face.add(method.getName());
            } else {
                others.add(method);
            }
        }
        for (Class<?> inside : Fabricmap.class.getDeclaredClasses()) {
            others.addAll(List.of(inside.getDeclaredMethods()));
        }
        for (Method method : others) {
            C.due(method.getName() + " bears a name of the face", false, () -> face.contains(method.getName()));
        }
    }

    private static void text(String program) {
        String code = program.replaceAll("(?s)/\\*.*?\\*/", "").replaceAll("//.*", "");
        String[] forbidden = {"->", "::", "\\bcatch\\b", "\\bfinally\\b", "\\bsynchronized\\b", "\\bassert\\b",
            "\\bpackage\\b", "\\bThread\\b", "\\bcurrentTimeMillis\\b", "\\bnanoTime\\b", "\\bRandom\\b",
            "\\w+Exact\\b", "\\bstatic\\s*\\{", "\\bhashCode\\b", "\\btoString\\b", "\\bstrictfp\\b",
            "\\bnative\\b", "\\bvolatile\\b", "\\bString\\s*\\."};
        for (String pattern : forbidden) {
            C.due(pattern + " is in the program", false, () -> Pattern.compile(pattern).matcher(code).find());
        }
        Matcher imported = Pattern.compile("(?m)^import (.*);$").matcher(code);
        while (imported.find()) {
            String what = imported.group(1);
            C.due("the import", "java.util.NoSuchElementException", () -> what);
        }
        Matcher library = Pattern.compile("\\b(Math|Integer|Long|System|Arrays)\\.(\\w+)").matcher(code);
        Set<String> allowed = Set.of("max", "min", "abs", "bitCount", "floorMod", "floorDiv", "arraycopy");
        while (library.find()) {
            String what = library.group(2);
            C.due("a library's " + what, true, () -> allowed.contains(what));
        }
        Matcher thrown = Pattern.compile("\\bthrow\\b(?! new \\w+Exception\\(\"[ -~]*\"\\);)").matcher(code);
        C.due("another form of throw", false, () -> thrown.find());
        int longest = 0;
        int begin = 0;
        String[] lines = program.split("\n");
        for (int i = 0; i < lines.length; i++) {
            begin = lines[i].matches(" {4,8}\\S.*\\{") && !lines[i].contains(" class ") ? i : begin;
            longest = lines[i].matches(" {4,8}\\}") && !lines[begin].isEmpty() ? Math.max(longest, i - begin) : longest;
        }
        int most = longest;
        C.due("methods are short, the longest of lines: " + most, true, () -> most > 5 && most <= 60);
        C.due("all signs are plain", true, () -> program.chars().allMatch(sign -> sign < 128));
    }
}
