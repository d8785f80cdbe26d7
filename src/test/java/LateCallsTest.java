import java.util.Set;

/** Behind the 512th call answers are free, but even then a call throws nothing that the face does not name. */
public final class LateCallsTest {
    private static final Set<String> NAMED = Set.of("IndexOutOfBoundsException", "IllegalArgumentException",
            "IllegalStateException", "NoSuchElementException");

    public static void main(String[] args) {
        UndoCellar cellar = new UndoCellar();
        for (int i = 0; i < 60; i++) {
            cellar.begin();
        }
        for (int i = 0; i < 3000; i++) {
            need("write", Script.answer(cellar, "write", i / 50 % 61, i % 12, i));
            need("read", Script.answer(cellar, "read", i / 50 % 61, i % 12));
            need("readAt", Script.answer(cellar, "readAt", cellar.moment(), i % 12));
            if (i % 50 == 49) {
                need("commit", Script.answer(cellar, "commit", i / 50 % 61));
            }
            if (i % 500 == 0) {
                State.of(cellar);
            }
        }
        Script.end("LateCallsTest");
    }

    private static void need(String call, String answer) {
        boolean named = !answer.startsWith("throws ") || NAMED.contains(answer.substring("throws ".length()));
        Script.due(call + " behind the 512th call, answering " + answer, String.valueOf(named), "true");
    }
}
