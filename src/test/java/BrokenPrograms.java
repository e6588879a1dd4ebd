import java.io.ByteArrayOutputStream;
import java.io.IOException;
import java.io.OutputStream;
import java.io.StringWriter;
import java.lang.reflect.Method;
import java.net.URI;
import java.nio.file.Files;
import java.nio.file.Path;
import java.util.ArrayList;
import java.util.HashMap;
import java.util.List;
import java.util.Map;
import javax.tools.FileObject;
import javax.tools.ForwardingJavaFileManager;
import javax.tools.JavaCompiler;
import javax.tools.JavaFileManager;
import javax.tools.JavaFileObject;
import javax.tools.SimpleJavaFileObject;
import javax.tools.ToolProvider;

/**
 * Breaks the program in the ways that src/test/help/broken.txt tells, one sentence of the document each, and checks that
 * this sentence's own test notices. A change that does not fit the program any more is told, but is no fault.
 */
public final class BrokenPrograms {
    private static final String PROGRAM = "BookedDetours";
    private static final String[] SOURCES = {
        "src/main/java/BookedDetours.java", "src/test/help/Sentences.java", "src/test/java/TermsSentences.java",
        "src/test/java/PromiseSentences.java"};

    record Broken(int line, String tests, String sentence, String there, String instead) { }

    private static final class Source extends SimpleJavaFileObject {
        private final String text;

        Source(String name, String text) {
            super(URI.create("text:///" + name + ".java"), Kind.SOURCE);
            this.text = text;
        }

        @Override public CharSequence getCharContent(boolean ignoreEncodingErrors) {
            return text;
        }
    }

    private static final class Made extends SimpleJavaFileObject {
        final ByteArrayOutputStream bytes = new ByteArrayOutputStream();

        Made(String name) {
            super(URI.create("made:///" + name + ".class"), Kind.CLASS);
        }

        @Override public OutputStream openOutputStream() {
            return bytes;
        }
    }

    private static final class InMemory extends ForwardingJavaFileManager<JavaFileManager> {
        final Map<String, Made> made = new HashMap<>();

        InMemory(JavaFileManager manager) {
            super(manager);
        }

        @Override public JavaFileObject getJavaFileForOutput(Location l, String name, JavaFileObject.Kind k, FileObject f) {
            Made one = new Made(name);
            made.put(name, one);
            return one;
        }
    }

    private static final class Loader extends ClassLoader {
        private final Map<String, byte[]> classes;

        Loader(Map<String, byte[]> classes) {
            super(ClassLoader.getPlatformClassLoader());
            this.classes = classes;
        }

        @Override protected Class<?> findClass(String name) throws ClassNotFoundException {
            byte[] bytes = classes.get(name);
            if (bytes == null) throw new ClassNotFoundException(name);
            return defineClass(name, bytes, 0, bytes.length);
        }
    }

    private static final JavaCompiler COMPILER = ToolProvider.getSystemJavaCompiler();
    private static final JavaFileManager MANAGER = COMPILER.getStandardFileManager(null, null, null);

    /** The classes, or null if the sources do not compile. */
    private static Map<String, byte[]> compiled(List<Source> sources) {
        InMemory files = new InMemory(MANAGER);
        List<String> options = List.of("-nowarn", "-proc:none");
        if (!COMPILER.getTask(new StringWriter(), files, null, options, null, sources).call()) return null;
        Map<String, byte[]> classes = new HashMap<>();
        files.made.forEach((name, one) -> classes.put(name, one.bytes.toByteArray()));
        return classes;
    }

    private static List<Broken> read() throws IOException {
        List<Broken> all = new ArrayList<>();
        String[] test = {"", ""};
        StringBuilder there = new StringBuilder();
        StringBuilder instead = new StringBuilder();
        List<String> lines = new ArrayList<>(Files.readAllLines(Path.of("src/test/help/broken.txt")));
        lines.add("");
        for (int i = 0; i < lines.size(); i++) {
            String line = lines.get(i);
            boolean more = line.startsWith("+") || line.startsWith("-") && instead.length() == 0;
            if (!more && there.length() > 0) {
                all.add(new Broken(i, test[0], test[1], cut(there), cut(instead)));
                there.setLength(0);
                instead.setLength(0);
            }
            if (line.startsWith("=")) test = line.substring(2).split("\\.");
            if (line.startsWith("-")) there.append(line.substring(1)).append('\n');
            if (line.startsWith("+")) instead.append(line.substring(1)).append('\n');
        }
        return all;
    }

    private static String cut(StringBuilder lines) {
        return lines.substring(0, lines.length() - 1);
    }

    /** The program with this one place changed, or null if that does not fit it. */
    private static Map<String, byte[]> brokenClasses(String program, Broken broken) {
        int at = program.indexOf(broken.there());
        if (at < 0 || program.indexOf(broken.there(), at + 1) >= 0) return null;
        String text = program.substring(0, at) + broken.instead() + program.substring(at + broken.there().length());
        return compiled(List.of(new Source(PROGRAM, text)));
    }

    private static boolean notices(Broken broken, Map<String, byte[]> classes) throws ReflectiveOperationException {
        Loader loader = new Loader(classes);
        Method wrongIn = loader.loadClass("Sentences").getDeclaredMethod("wrongIn", Class.class, String.class);
        wrongIn.setAccessible(true);
        return !((List<?>) wrongIn.invoke(null, loader.loadClass(broken.tests()), broken.sentence())).isEmpty();
    }

    private static List<Source> sources() throws IOException {
        List<Source> sources = new ArrayList<>();
        for (String file : SOURCES) {
            Path path = Path.of(file);
            sources.add(new Source(path.getFileName().toString().replace(".java", ""), Files.readString(path)));
        }
        return sources;
    }

    public static void main(String[] args) throws Exception {
        List<Source> sources = sources();
        Map<String, byte[]> classes = compiled(sources);
        List<Broken> all = read();
        int unfit = 0;
        int wrong = 0;
        for (Broken broken : all) {
            String told = "broken.txt, ahead of line " + (broken.line() + 1) + " (" + broken.sentence() + ")";
            Map<String, byte[]> program = brokenClasses(sources.get(0).text, broken);
            if (program == null) {
                unfit++;
                System.out.println("does not fit the program: " + told);
                continue;
            }
            classes.keySet().removeIf(name -> name.startsWith(PROGRAM));
            classes.putAll(program);
            if (notices(broken, classes)) continue;
            wrong++;
            System.out.println("the sentence's test does not notice: " + told);
        }
        System.out.println(all.size() - unfit + " broken programs tried, " + wrong + " not noticed");
        if (wrong != 0) System.exit(1);
    }
}
