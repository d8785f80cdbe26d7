import java.lang.reflect.InvocationTargetException;
import java.lang.reflect.Method;
import java.util.Arrays;
import java.util.regex.Matcher;
import java.util.regex.Pattern;

/**
 * Runs of calls written as text, a call a line, on a fresh object each:
 * "write(0, 3, 5) = 0" or "begin() throws IllegalStateException".
 * A call that throws must change nothing: that is looked at for every one.
 */
final class Script {
    private static final Pattern LINE = Pattern.compile("(\\w+)\\(([^)]*)\\) (=|throws) (\\S+)");

    private static int wrong = 0;

    private Script() {
    }

    /** Runs the calls, and tells each whose answer is not the one that is due. */
    static void run(String name, String calls) {
        UndoCellar cellar = new UndoCellar();
        int number = 0;
        for (String line : calls.split("\n")) {
            if (line.isBlank()) {
                continue;
            }
            number++;
            check(name + ", call " + number, cellar, line.strip());
        }
    }

    /** The same line so many times, "#" standing for 0, 1, 2 and so on. */
    static String times(int count, String line) {
        StringBuilder lines = new StringBuilder();
        for (int i = 0; i < count; i++) {
            lines.append(line.replace("#", String.valueOf(i))).append('\n');
        }
        return lines.toString();
    }

    static void due(String name, String got, String want) {
        if (!got.equals(want)) {
            wrong++;
            System.out.println(name + ": answered " + got + ", due is " + want);
        }
    }

    /** To be the last call of a test's main method. */
    static void end(String test) {
        System.out.println(test + ": " + (wrong == 0 ? "all answers are as due" : wrong + " answers are not as due"));
        if (wrong != 0) {
            System.exit(1);
        }
    }

    private static void check(String name, UndoCellar cellar, String line) {
        Matcher matcher = LINE.matcher(line);
        if (!matcher.matches()) {
            throw new IllegalArgumentException("not a line of a script: " + line);
        }
        String before = State.of(cellar);
        String got = answer(cellar, matcher.group(1), arguments(matcher.group(2)));
        String want = matcher.group(3).equals("=") ? matcher.group(4) : "throws " + matcher.group(4);
        due(name + ", " + line, got, want);
        if (got.startsWith("throws ")) {
            due(name + ", what there is behind " + line, State.of(cellar), before);
        }
    }

    private static Object[] arguments(String text) {
        if (text.isBlank()) {
            return new Object[0];
        }
        String[] parts = text.split(",");
        Object[] arguments = new Object[parts.length];
        for (int i = 0; i < parts.length; i++) {
            arguments[i] = Integer.valueOf(parts[i].strip());
        }
        return arguments;
    }

    /** Its very own name; one that the library threw, for want of a look ahead, is none of the document's. */
    private static String nameOf(Throwable thrown) {
        String name = thrown.getClass().getSimpleName();
        StackTraceElement[] trace = thrown.getStackTrace();
        boolean thrownByClass = trace.length > 0 && trace[0].getClassName().equals("UndoCellar");
        return thrownByClass ? name : name + " thrown by the library";
    }

    /** What the call answers; "throws " and the exception's very own name if it throws. */
    static String answer(UndoCellar cellar, String call, Object... arguments) {
        Class<?>[] types = new Class<?>[arguments.length];
        Arrays.fill(types, int.class);
        try {
            Method method = UndoCellar.class.getMethod(call, types);
            return String.valueOf(method.invoke(cellar, arguments));
        } catch (InvocationTargetException e) {
            return "throws " + nameOf(e.getCause());
        } catch (NoSuchMethodException | IllegalAccessException e) {
            throw new IllegalStateException("the class has no such call: " + call, e);
        }
    }
}
