import java.lang.management.ManagementFactory;
import java.lang.reflect.Constructor;
import java.lang.reflect.Field;
import java.lang.reflect.Member;
import java.lang.reflect.Method;
import java.lang.reflect.Modifier;
import java.nio.file.Files;
import java.nio.file.Path;
import java.util.ArrayList;
import java.util.Arrays;
import java.util.List;
import java.util.TreeSet;
import java.util.regex.Matcher;
import java.util.regex.Pattern;

/** The rules of LANGUAGE.md that a program can look at, wild arguments, and the room that a run takes. */
public final class LanguageTests {
    private static final String SOURCE = "src/main/java/BookedDetours.java";
    private static final String[] FACE = {
        "set(int,int)", "stop(int,int)", "book(int,int,int,int)", "cancel(int)", "pass(int)", "miss(int)", "bookAll()",
        "ride(int,int)", "visit(int,int)", "coordinate(int,int)", "count(int)", "ifBooked(int,int,int,int,int)",
        "earliestBy(int,int,int)", "spare(int)", "dearest(int)", "put(long)", "wipe()", "fault()", "undo()",
        "save(int)", "restore(int)"};
    private static final String[] CONSTANTS = {
        "NO_SUCH=-1", "BAD_VALUE=-2", "BAD_TEXT=-3", "TOO_MANY=-4", "NOT_POSSIBLE=-5", "NONE=-6", "SEATS=0", "SLACK=1",
        "STOPPING=2", "BOOKED=0", "ABOARD=1", "DONE=2", "CANCELLED=3", "MISSED=4"};
    private static final String[] FORBIDDEN = {
        "throw", "try", "catch", "synchronized", "assert", "import", "package", "protected", "->", "::", "lambda",
        "equals", "hashCode", "toString", "Exact", "static {", "System."};

    private static int wrong;

    private static void check(boolean good, String told) {
        if (good) return;
        wrong++;
        System.out.println(told);
    }

    private static void face() throws IllegalAccessException {
        Class<?> face = BookedDetours.class;
        check(Modifier.isPublic(face.getModifiers()) && Modifier.isFinal(face.getModifiers()), "not public and final");
        check(face.getPackageName().isEmpty(), "in a package");
        TreeSet<String> methods = new TreeSet<>();
        TreeSet<String> names = new TreeSet<>();
        for (Method method : face.getDeclaredMethods()) {
            check(!isBetween(method), "neither public nor private: " + method);
            if (!Modifier.isPublic(method.getModifiers())) continue;
            check(method.getReturnType() == int.class && !Modifier.isStatic(method.getModifiers()), "answers: " + method);
            methods.add(method.getName() + Arrays.toString(method.getParameterTypes())
                    .replace("[", "(").replace("]", ")").replace(" ", ""));
            names.add(method.getName());
        }
        check(methods.equals(new TreeSet<>(List.of(FACE))), "the methods are " + methods);
        TreeSet<String> constants = new TreeSet<>();
        for (Field field : face.getDeclaredFields()) {
            check(!isBetween(field), "neither public nor private: " + field);
            if (Modifier.isPublic(field.getModifiers())) {
                check(Modifier.isStatic(field.getModifiers()) && Modifier.isFinal(field.getModifiers()), "no constant: " + field);
                constants.add(field.getName() + "=" + field.getInt(null));
            }
        }
        check(constants.equals(new TreeSet<>(List.of(CONSTANTS))), "the constants are " + constants);
        Constructor<?>[] constructors = face.getDeclaredConstructors();
        check(constructors.length == 1 && Modifier.isPublic(constructors[0].getModifiers())
                && constructors[0].getParameterCount() == 0, "the constructors are " + Arrays.toString(constructors));
        classesInside(face, names);
    }

    private static void classesInside(Class<?> face, TreeSet<String> names) {
        List<Class<?>> all = new ArrayList<>(List.of(face.getDeclaredClasses()));
        check(all.size() < 12, "classes inside: " + all.size());
        for (Class<?> inside : all) {
            check(Modifier.isStatic(inside.getModifiers()), "not static: " + inside);
            check(!Modifier.isPublic(inside.getModifiers()), "public: " + inside);
            for (Method method : inside.getDeclaredMethods()) {
                check(!names.contains(method.getName()), "bears the name of a public one: " + method);
                check(method.getParameterCount() <= 7, "more than seven parameters: " + method);
            }
            long fields = Arrays.stream(inside.getDeclaredFields()).filter(f -> !Modifier.isStatic(f.getModifiers())).count();
            check(fields <= 20, "more than twenty fields: " + inside);
            for (Field field : inside.getDeclaredFields()) {
                check(!Modifier.isStatic(field.getModifiers()) || Modifier.isFinal(field.getModifiers()), "static: " + field);
            }
        }
        for (Method method : face.getDeclaredMethods()) {
            if (Modifier.isPrivate(method.getModifiers())) check(!names.contains(method.getName()), "named alike: " + method);
        }
    }

    private static boolean isBetween(Member member) {
        return !member.isSynthetic() && !Modifier.isPublic(member.getModifiers()) && !Modifier.isPrivate(member.getModifiers());
    }

    private static void source() throws java.io.IOException {
        String text = Files.readString(Path.of(SOURCE));
        String bare = text.replaceAll("(?s)/\\*.*?\\*/", "").replaceAll("//[^\n]*", "");
        for (String word : FORBIDDEN) {
            String pattern = word.matches("[a-z]\\w*") ? "\\b" + word + "\\b" : Pattern.quote(word);
            check(!Pattern.compile(pattern).matcher(bare).find(), "the source has " + word);
        }
        check(bare.chars().allMatch(c -> c < 127), "the source has a sign above 126");
        Matcher loops = Pattern.compile("while").matcher(bare);
        check(!loops.find(), "a while without a bound to be seen?");
        String[] lines = text.split("\n");
        int start = 0;
        for (int i = 0; i < lines.length; i++) {
            check(lines[i].length() <= 130, "a long line: " + (i + 1));
            if (lines[i].matches("    ( {4})?[a-z].*\\) \\{")) start = i;
            if (lines[i].matches("    ( {4})?\\}")) check(i - start < 60, "a long method at line " + (start + 1));
        }
    }

    private static final int[] WILD = {Integer.MIN_VALUE, -2, -1, 0, 1, 2, 3, 5, 11, 12, 16, 17, 34, 60, 600, 900, Integer.MAX_VALUE};

    /** Whatever the arguments are, the machine never throws. */
    private static void wildArguments() throws ReflectiveOperationException {
        java.util.Random random = new java.util.Random(22);
        List<Method> calls = new ArrayList<>();
        for (Method method : BookedDetours.class.getDeclaredMethods()) {
            if (Modifier.isPublic(method.getModifiers())) calls.add(method);
        }
        calls.sort((a, b) -> a.getName().compareTo(b.getName()));
        for (int run = 0; run < 400; run++) {
            BookedDetours x = new BookedDetours();
            for (int i = 0; i < 512; i++) {
                Method method = i < 6 ? BookedDetours.class.getMethod("stop", int.class, int.class)
                        : calls.get(random.nextInt(calls.size()));
                Object[] arguments = new Object[method.getParameterCount()];
                for (int a = 0; a < arguments.length; a++) {
                    int wild = WILD[random.nextInt(WILD.length)];
                    arguments[a] = method.getParameterTypes()[a] == long.class ? (Object) random.nextLong() : (Object) wild;
                }
                method.invoke(x, arguments);
            }
        }
    }

    /** A day with 16 rides, and the dearest calls over and over. */
    private static int fullRun() {
        BookedDetours x = new BookedDetours();
        x.set(0, 8);
        x.set(1, 60);
        for (int i = 0; i < 12; i++) x.stop(i % 4, i / 4);
        int sum = 0;
        for (int i = 0; i < 16; i++) sum += x.book(i % 12, (i + 5) % 12, 0, 900);
        for (int i = 29; i < 512; i += 8) {
            sum += x.ifBooked(0, 1, 0, 900, 0) + x.earliestBy(1, 2, 0) + x.dearest(0) + x.save(i & 1) + x.cancel(i % 16);
            sum += x.put(0x303E3140302D39L) + x.bookAll() + x.undo();
        }
        return sum;
    }

    private static void room() {
        var threads = (com.sun.management.ThreadMXBean) ManagementFactory.getThreadMXBean();
        fullRun();
        long before = threads.getCurrentThreadAllocatedBytes();
        int sum = fullRun();
        long bytes = threads.getCurrentThreadAllocatedBytes() - before;
        check(bytes < 100_000, "a run takes " + bytes + " bytes (" + sum + ")");
    }

    public static void main(String[] args) throws Exception {
        face();
        source();
        wildArguments();
        room();
        System.out.println(wrong == 0 ? "the rules are kept" : wrong + " rules are not kept");
        if (wrong != 0) System.exit(1);
    }
}
