import java.lang.reflect.Field;
import java.lang.reflect.Method;
import java.lang.reflect.Modifier;
import java.nio.file.Files;
import java.nio.file.Path;
import java.util.List;
import java.util.TreeSet;
import java.util.regex.Matcher;
import java.util.regex.Pattern;
import java.util.stream.Stream;

/** Makes the calls that README.md shows, and looks whether it tells of every method, constant and test. */
public final class ReadmeTests {
    private static final Pattern CALL = Pattern.compile("day\\.(\\w+)\\((.*)\\);\\s*// (-?\\w+)(?::.*)?");

    private static int wrong;

    private static void check(boolean good, String told) {
        if (good) return;
        wrong++;
        System.out.println(told);
    }

    private static Method methodNamed(String name) {
        for (Method method : BookedDetours.class.getDeclaredMethods()) {
            if (method.getName().equals(name) && Modifier.isPublic(method.getModifiers())) return method;
        }
        throw new IllegalStateException("there is no method " + name);
    }

    /** A number as README.md writes it: by its digits, or by a constant's name. */
    private static long number(String text) throws ReflectiveOperationException {
        String bare = text.strip().replace("BookedDetours.", "");
        if (bare.matches("[A-Z_]+")) return BookedDetours.class.getField(bare).getInt(null);
        return Long.decode(bare.replace("L", ""));
    }

    private static int answerTo(BookedDetours day, String name, String arguments) throws ReflectiveOperationException {
        Method method = methodNamed(name);
        String[] texts = arguments.isEmpty() ? new String[0] : arguments.split(",");
        check(texts.length == method.getParameterCount(), "README.md gives " + name + " " + texts.length + " arguments");
        Object[] values = new Object[texts.length];
        for (int i = 0; i < texts.length; i++) {
            long value = number(texts[i]);
            if (method.getParameterTypes()[i] == long.class) values[i] = value;
            else values[i] = (int) value;
        }
        return (int) method.invoke(day, values);
    }

    /** Makes the calls of the example, and gives back the methods that it shows. */
    private static TreeSet<String> makeCalls(List<String> lines) throws ReflectiveOperationException {
        TreeSet<String> shown = new TreeSet<>();
        BookedDetours day = new BookedDetours();
        for (String line : lines) {
            if (!line.startsWith("day.")) continue;
            Matcher call = CALL.matcher(line);
            if (!call.matches()) {
                check(false, "README.md has a call without its answer: " + line);
                continue;
            }
            int answer = answerTo(day, call.group(1), call.group(2));
            check(answer == number(call.group(3)), "README.md: " + line + "\n  answered " + answer);
            shown.add(call.group(1));
        }
        return shown;
    }

    private static void methodsAndConstants(String text, TreeSet<String> shown) throws ReflectiveOperationException {
        for (Method method : BookedDetours.class.getDeclaredMethods()) {
            if (!Modifier.isPublic(method.getModifiers())) continue;
            check(shown.contains(method.getName()), "README.md does not show " + method.getName());
        }
        for (Field field : BookedDetours.class.getFields()) {
            check(text.contains(field.getName()), "README.md does not name " + field.getName());
            int value = field.getInt(null);
            if (value >= 0) continue;
            check(text.contains("| " + value + " | `" + field.getName() + "` |"), "README.md has no row of " + field.getName());
        }
    }

    private static void tests(String text) throws java.io.IOException {
        check(text.contains(".ci/run"), "README.md does not name .ci/run");
        check(Files.isExecutable(Path.of(".ci/run")), ".ci/run is not executable");
        try (Stream<Path> files = Files.list(Path.of("src/test/java"))) {
            for (Path file : files.toList()) {
                String name = file.getFileName().toString().replace(".java", "");
                check(text.contains("`" + name + "`"), "README.md does not name " + name);
            }
        }
    }

    public static void main(String[] args) throws Exception {
        Path readme = Path.of("README.md");
        String text = Files.readString(readme);
        TreeSet<String> shown = makeCalls(Files.readAllLines(readme));
        methodsAndConstants(text, shown);
        tests(text);
        System.out.println(wrong == 0 ? "README.md is right" : "README.md is wrong in " + wrong + " places");
        if (wrong != 0) System.exit(1);
    }
}
