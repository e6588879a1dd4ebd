import java.lang.reflect.InvocationTargetException;
import java.lang.reflect.Method;
import java.lang.reflect.Modifier;
import java.util.ArrayList;
import java.util.List;
import java.util.function.ToIntFunction;

/**
 * What tests of single sentences of the document share. Each static method of such a class that takes and returns
 * nothing is the test of one sentence, which stands above it.
 */
public abstract class Sentences {
    static final int NO_SUCH = -1, BAD_VALUE = -2, BAD_TEXT = -3, TOO_MANY = -4, NOT_POSSIBLE = -5, NONE = -6;
    static final int MIN = Integer.MIN_VALUE, MAX = Integer.MAX_VALUE;

    private static final List<String> WRONG = new ArrayList<>();

    /** Runs all the tests, or the one that is named; what is wrong, a line each. */
    static List<String> wrongIn(Class<?> tests, String named) throws IllegalAccessException {
        List<String> told = new ArrayList<>();
        for (Method test : testsOf(tests)) {
            if (named != null && !test.getName().equals(named)) continue;
            WRONG.clear();
            try {
                test.invoke(null);
            } catch (InvocationTargetException thrown) {
                WRONG.add("threw " + thrown.getCause());
            }
            for (String line : WRONG) told.add(test.getName() + ": " + line);
        }
        return told;
    }

    static List<Method> testsOf(Class<?> tests) {
        List<Method> found = new ArrayList<>();
        for (Method method : tests.getDeclaredMethods()) {
            boolean plain = method.getParameterCount() == 0 && method.getReturnType() == void.class;
            if (plain && Modifier.isStatic(method.getModifiers()) && !method.isSynthetic()) found.add(method);
        }
        return found;
    }

    static void runAll(Class<?> tests) throws IllegalAccessException {
        List<String> wrong = wrongIn(tests, null);
        for (String line : wrong) System.out.println(line);
        int sentences = testsOf(tests).size();
        System.out.println(wrong.isEmpty() ? sentences + " sentences hold" : wrong.size() + " answers are not as due");
        if (!wrong.isEmpty() || sentences == 0) System.exit(1);
    }

    static void due(String call, int got, int want) {
        if (got != want) WRONG.add(call + " answered " + got + ", due is " + want);
    }

    static void same(String call, String got, String want) {
        if (!got.equals(want)) WRONG.add(call + ":\n  " + got + "\n  due is\n  " + want);
    }

    /** A day with stops at these places of one road. */
    static BookedDetours road(int... xs) {
        BookedDetours x = new BookedDetours();
        for (int at : xs) x.stop(at, 0);
        return x;
    }

    /** Such a road, with these settings. */
    static BookedDetours roadWith(int seats, int slack, int stopping, int... xs) {
        BookedDetours x = road(xs);
        x.set(0, seats);
        x.set(1, slack);
        x.set(2, stopping);
        return x;
    }

    static int put(BookedDetours x, String text) {
        int answer = 0;
        for (int i = 0; i < text.length(); i += 8) {
            long characters = 0;
            for (int j = i; j < text.length() && j < i + 8; j++) characters = characters << 8 | text.charAt(j);
            answer = x.put(characters);
        }
        return answer;
    }

    static int faultOf(String text) {
        BookedDetours x = new BookedDetours();
        put(x, text);
        return x.fault();
    }

    /** The fault of each of these texts is their last character, also when more follows. */
    static void dueLast(String... texts) {
        for (String text : texts) {
            due("fault() of " + text, faultOf(text), text.length() - 1);
            due("fault() of " + text + "1>", faultOf(text + "1>"), text.length() - 1);
        }
    }

    /** These texts have no fault. */
    static void dueGood(String... texts) {
        for (String text : texts) due("fault() of " + text, faultOf(text), NONE);
    }

    /** The visits of the route: the ride that is picked up, or -1 - ride if it is set down. */
    static void dueRoute(BookedDetours x, int... want) {
        due("count(2)", x.count(2), want.length);
        for (int i = 0; i < want.length; i++) {
            int got = x.visit(i, 1) == 1 ? -1 - x.visit(i, 0) : x.visit(i, 0);
            due("the visit at place " + i, got, want[i]);
        }
    }

    static void dueTimes(BookedDetours x, int... want) {
        due("count(2)", x.count(2), want.length);
        for (int i = 0; i < want.length; i++) due("visit(" + i + ", 3)", x.visit(i, 3), want[i]);
    }

    /** All that a day tells, but for the pad. */
    static String told(BookedDetours x) {
        StringBuilder told = new StringBuilder();
        for (int what = 0; what < 14; what++) if (what != 12) told.append(x.count(what)).append(' ');
        told.append("| stops");
        for (int stop = 0; stop < x.count(0); stop++) {
            told.append(' ').append(x.coordinate(stop, 0)).append(',').append(x.coordinate(stop, 1));
        }
        for (int ride = 0; ride < x.count(1); ride++) {
            told.append(" | ride");
            for (int what = 0; what < 8; what++) told.append(' ').append(x.ride(ride, what));
        }
        for (int place = 0; place < x.count(2); place++) {
            told.append(" | visit");
            for (int what = 0; what < 6; what++) told.append(' ').append(x.visit(place, what));
        }
        return told.toString();
    }

    /** The call answers with this error, and the day, its pad, its history and its slot 0 are as without it. */
    static void changesNothing(String call, ToIntFunction<BookedDetours> made, int error, BookedDetours x, BookedDetours twin) {
        due(call, made.applyAsInt(x), error);
        same("the day behind " + call, told(x), told(twin));
        due("the pad behind " + call, x.count(12), twin.count(12));
        due("the fault behind " + call, x.fault(), twin.fault());
        due("undo() behind " + call, x.undo(), twin.undo());
        same("undo() behind " + call, told(x), told(twin));
        due("restore(0) behind " + call, x.restore(0), twin.restore(0));
        same("restore(0) behind " + call, told(x), told(twin));
    }
}
