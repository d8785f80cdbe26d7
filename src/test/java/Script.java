import java.lang.reflect.InvocationTargetException;
import java.lang.reflect.Method;
import java.util.ArrayList;
import java.util.Arrays;
import java.util.List;
import java.util.regex.Matcher;
import java.util.regex.Pattern;

/**
 * Runs of calls written as text, a call a line, on a fresh object each:
 * "write(0, 3, 5) = 0" or "begin() throws IllegalStateException".
 * A call that throws must change nothing: that is looked at for every one.
 */
final class Script {
    /** An object is used for so many calls; nothing is promised of it behind them. */
    static final int MOST_CALLS = 512;

    private static final Pattern LINE = Pattern.compile("(\\w+\\([^)]*\\)) (= |throws )(\\S+)");
    private static final Pattern CALL = Pattern.compile("(\\w+)\\(([^)]*)\\)");

    private static int wrong = 0;

    private Script() {
    }

    /** Runs the calls, and tells each whose answer is not the one that is due. */
    static void run(String name, String lines) {
        UndoCellar cellar = new UndoCellar();
        List<String> calls = new ArrayList<String>();
        for (String line : lines.split("\n")) {
            if (line.isBlank()) {
                continue;
            }
            Matcher matcher = LINE.matcher(line.strip());
            if (!matcher.matches() || calls.size() == MOST_CALLS) {
                throw new IllegalArgumentException(name + ": not a line of a script, or too many: " + line);
            }
            calls.add(matcher.group(1));
            String place = name + ", call " + calls.size() + ", " + line.strip();
            String got = answer(cellar, matcher.group(1));
            due(place, got, matcher.group(2).replace("= ", "") + matcher.group(3));
            if (got.startsWith("throws ")) {
                needNothingChanged(place, calls);
            }
        }
    }

    /**
     * The last call has thrown. Two other objects tell what is there without it and with it: to ask
     * the first one would use up its calls.
     */
    private static void needNothingChanged(String name, List<String> calls) {
        List<String> callsAhead = calls.subList(0, calls.size() - 1);
        int left = MOST_CALLS - calls.size();
        String ahead = State.of(behind(callsAhead), left);
        String behind = State.of(behind(calls), left);
        due(name + ", what there is behind it", behind, ahead);
    }

    private static UndoCellar behind(List<String> calls) {
        UndoCellar cellar = new UndoCellar();
        for (String call : calls) {
            answer(cellar, call);
        }
        return cellar;
    }

    /** The same line so many times, "#" standing for 0, 1, 2 and so on. */
    static String times(int count, String line) {
        StringBuilder lines = new StringBuilder();
        for (int i = 0; i < count; i++) {
            lines.append(line.replace("#", String.valueOf(i))).append('\n');
        }
        return lines.toString();
    }

    static void due(String name, String got, String want) {
        if (!got.equals(want)) {
            wrong++;
            System.out.println(name + ": answered " + got + ", due is " + want);
        }
    }

    /** To be the last call of a test's main method. */
    static void end(String test) {
        System.out.println(test + ": " + (wrong == 0 ? "all answers are as due" : wrong + " answers are not as due"));
        if (wrong != 0) {
            System.exit(1);
        }
    }

    /** What the call answers; "throws " and the exception's very own name if it throws. */
    static String answer(UndoCellar cellar, String call) {
        Matcher matcher = CALL.matcher(call);
        if (!matcher.matches()) {
            throw new IllegalArgumentException("not a call: " + call);
        }
        return answer(cellar, matcher.group(1), arguments(matcher.group(2)));
    }

    static String answer(UndoCellar cellar, String call, int[] arguments) {
        Class<?>[] types = new Class<?>[arguments.length];
        Arrays.fill(types, int.class);
        try {
            Method method = UndoCellar.class.getMethod(call, types);
            return String.valueOf(method.invoke(cellar, Arrays.stream(arguments).boxed().toArray()));
        } catch (InvocationTargetException e) {
            return "throws " + nameOf(e.getCause());
        } catch (NoSuchMethodException | IllegalAccessException e) {
            throw new IllegalStateException("the class has no such call: " + call, e);
        }
    }

    private static int[] arguments(String text) {
        if (text.isBlank()) {
            return new int[0];
        }
        return Arrays.stream(text.split(",")).map(String::strip).mapToInt(Integer::parseInt).toArray();
    }

    /**
     * Its very own name; one that the library or the machine threw, for want of a look ahead, is
     * none of the document's.
     */
    private static String nameOf(Throwable thrown) {
        String name = thrown.getClass().getSimpleName();
        StackTraceElement[] trace = thrown.getStackTrace();
        boolean thrownByClass = trace.length > 0 && trace[0].getClassName().matches("UndoCellar(\\$.*)?");
        return thrownByClass ? name : name + " thrown by the library";
    }
}
