import java.util.Set;

/** Behind the 512th call answers are free, but even then a call throws nothing that the face does not name. */
public final class LateCallsTest {
    private static final Set<String> NAMED = Set.of("IndexOutOfBoundsException", "IllegalArgumentException",
            "IllegalStateException", "NoSuchElementException");

    public static void main(String[] args) {
        UndoCellar cellar = new UndoCellar();
        for (int i = 0; i < 60; i++) {
            cellar.begin();
        }
        for (int i = 0; i < 3000; i++) {
            int transaction = i / 50 % 61;
            need(cellar, "write", transaction, i % 12, i);
            need(cellar, "read", transaction, i % 12);
            need(cellar, "readAt", cellar.moment(), i % 12);
            need(cellar, "versionAt", 0, i % 12);
            need(cellar, "lockOf", i % 12);
            if (i % 50 == 49) {
                need(cellar, i % 100 == 99 ? "commit" : "undo", transaction);
            }
        }
        Script.end("LateCallsTest");
    }

    private static void need(UndoCellar cellar, String call, int... arguments) {
        String answer = Script.answer(cellar, call, arguments);
        boolean named = !answer.startsWith("throws ") || NAMED.contains(answer.substring("throws ".length()));
        Script.due(call + " behind the 512th call, answering " + answer, String.valueOf(named), "true");
    }
}
