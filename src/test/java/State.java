import java.util.ArrayList;
import java.util.List;

/** All that an object answers when it is asked about everything; the asking marks slots. */
final class State {
    private State() {
    }

    /** What it answers to so many calls at most: an object is not used for more than 512. */
    static String of(UndoCellar cellar, int mostCalls) {
        StringBuilder all = new StringBuilder();
        List<String> calls = calls(cellar.moment(), cellar.transactions());
        // Those two were calls, too.
        for (int i = 0; i < calls.size() && i < mostCalls - 2; i++) {
            all.append(calls.get(i)).append(" = ").append(Script.answer(cellar, calls.get(i))).append("; ");
        }
        return all.toString();
    }

    /** Those first that tell most: there may be calls left for only a few. */
    private static List<String> calls(int moment, int transactions) {
        List<String> calls = new ArrayList<String>();
        calls.addAll(List.of("moment()", "transactions()", "marked()", "records()", "dropped()", "setSpace(30)"));
        for (int slot = 0; slot < 6; slot++) {
            calls.add("slotOf(" + slot / 2 + ", " + slot % 2 + ")");
            calls.add("isMarked(" + slot / 2 + ", " + slot % 2 + ")");
        }
        for (int row = 0; row < 12; row++) {
            calls.add("now(" + row + ")");
            calls.add("lockOf(" + row + ")");
        }
        for (int transaction = 0; transaction < transactions; transaction++) {
            calls.add("save(" + transaction + ")");
        }
        for (int asOf = 0; asOf <= moment; asOf++) {
            for (int row = 0; row < 12; row++) {
                calls.add("versionAt(" + asOf + ", " + row + ")");
                calls.add("readAt(" + asOf + ", " + row + ")");
            }
        }
        for (int transaction = 0; transaction < transactions; transaction++) {
            for (int row = 0; row < 12; row++) {
                calls.add("read(" + transaction + ", " + row + ")");
            }
        }
        return calls;
    }
}
