import java.util.Arrays;
import java.util.TreeMap;

/**
 * All promises: long runs of mixed calls, each answer compared with the model's. The runs are the
 * same each time.
 */
public final class ModelTest {
    private static final int RUNS = 3000;
    private static final int[] ODD = {
        -1, -2, 2, 3, 4, 12, 31, 60, 1000001, -1000001, Integer.MAX_VALUE, Integer.MIN_VALUE,
    };
    private static final String[] DOING = {
        "write", "write", "write", "write", "write", "write", "write", "write", "write", "write", "write", "write",
        "read", "read", "read", "read", "read", "readAt", "readAt", "readAt", "readAt",
        "begin", "begin", "begin", "begin", "commit", "commit", "undo", "undoTo", "undoTo", "save", "setSpace",
    };
    private static final String[] ASKING = {
        "now", "now", "versionAt", "versionAt", "lockOf", "lockOf", "slotOf", "slotOf", "isMarked", "isMarked",
        "marked", "marked", "records", "dropped", "moment", "transactions",
    };

    private final TreeMap<String, Integer> answers = new TreeMap<String, Integer>();
    private long seed;

    public static void main(String[] args) {
        ModelTest test = new ModelTest();
        for (int run = 0; run < RUNS; run++) {
            test.run(run);
        }
        test.needEveryAnswer();
        Script.end("ModelTest");
    }

    /** As many calls as an object is used for, so that it is asked among them and not behind each. */
    private void run(int run) {
        seed = run;
        UndoCellar cellar = new UndoCellar();
        Model model = new Model();
        int rows = new int[] {2, 5, 12}[run % 3];
        for (int i = 0; i < Script.MOST_CALLS; i++) {
            String[] calls = below(5) < 3 ? DOING : ASKING;
            String call = calls[below(calls.length)];
            int[] arguments = arguments(call, model, rows);
            String want = model.answer(call, arguments);
            String got = Script.answer(cellar, call, arguments);
            Script.due("run " + run + ", call " + i + ", " + call + Arrays.toString(arguments), got, want);
            answers.merge(call + (want.startsWith("throws") ? " " + want : ""), 1, Integer::sum);
            if (!got.equals(want)) {
                return;
            }
        }
    }

    private int[] arguments(String call, Model model, int rows) {
        int transaction = odd(transaction(model));
        int row = odd(below(rows));
        return switch (call) {
            case "begin", "moment", "transactions", "marked", "records", "dropped" -> new int[0];
            case "setSpace" -> new int[] {odd(1 + below(below(3) == 0 ? 30 : 8))};
            case "write" -> new int[] {transaction, row, odd(below(100))};
            case "read" -> new int[] {transaction, row};
            case "readAt", "versionAt" -> new int[] {odd(Math.max(0, model.moment - below(6))), row};
            case "undoTo" -> new int[] {transaction, odd(below(4))};
            case "now", "lockOf" -> new int[] {row};
            case "slotOf", "isMarked" -> new int[] {odd(below(rows) / 4), odd(below(2))};
            default -> new int[] {transaction};
        };
    }

    /** Mostly one that is active, so that runs do not come to a standstill; an old one, too, that reads late. */
    private int transaction(Model model) {
        int transaction = below(model.ends.size() + 1);
        for (int i = 0; i < 100 && below(8) != 0 && !model.isActive(transaction); i++) {
            transaction = below(model.ends.size() + 1);
        }
        return transaction;
    }

    /** The number, or now and then one that may be wrong. */
    private int odd(int number) {
        return below(60) == 0 ? ODD[below(ODD.length)] : number;
    }

    private int below(int bound) {
        seed = seed * 6364136223846793005L + 1442695040888963407L;
        return (int) ((seed >>> 33) % bound);
    }

    /** Runs that never come to an answer would prove nothing of it. */
    private void needEveryAnswer() {
        String[] needed = {
            "setSpace", "setSpace throws IllegalArgumentException", "setSpace throws IllegalStateException",
            "begin", "begin throws IllegalStateException",
            "write", "write throws IndexOutOfBoundsException", "write throws IllegalArgumentException",
            "write throws IllegalStateException",
            "read", "read throws IndexOutOfBoundsException", "read throws IllegalStateException",
            "read throws NoSuchElementException",
            "readAt", "readAt throws IndexOutOfBoundsException", "readAt throws IllegalArgumentException",
            "readAt throws NoSuchElementException",
            "save", "save throws IndexOutOfBoundsException", "save throws IllegalStateException",
            "undoTo", "undoTo throws IndexOutOfBoundsException", "undoTo throws IllegalStateException",
            "undoTo throws IllegalArgumentException",
            "undo", "undo throws IndexOutOfBoundsException", "undo throws IllegalStateException",
            "commit", "commit throws IndexOutOfBoundsException", "commit throws IllegalStateException",
            "moment", "transactions", "marked", "records", "dropped",
            "now", "now throws IndexOutOfBoundsException", "lockOf", "lockOf throws IndexOutOfBoundsException",
            "versionAt", "versionAt throws IndexOutOfBoundsException", "versionAt throws IllegalArgumentException",
            "slotOf", "slotOf throws IndexOutOfBoundsException",
            "isMarked", "isMarked throws IndexOutOfBoundsException",
        };
        for (String answer : needed) {
            Script.due("runs come to: " + answer, String.valueOf(answers.containsKey(answer)), "true");
        }
    }
}
