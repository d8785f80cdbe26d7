/** Promise 1, a new object. */
public final class NewObjectTest {
    public static void main(String[] args) {
        Script.run("promise 1: all values are 0, committed or not",
                Script.times(12, "now(#) = 0") + Script.times(12, "versionAt(0, #) = 0")
                + Script.times(12, "readAt(0, #) = 0"));
        Script.run("promise 1: all values are 0 for the first transaction, too",
                "begin() = 0\n" + Script.times(12, "read(0, #) = 0"));
        Script.run("promise 1: no row is locked", Script.times(12, "lockOf(#) = -1"));
        Script.run("promise 1: no transactions", """
                transactions() = 0
                read(0, 0) throws IndexOutOfBoundsException
                begin() = 0
                """);
        Script.run("promise 1: the moment 0", """
                moment() = 0
                readAt(0, 0) = 0
                readAt(1, 0) throws IllegalArgumentException
                """);
        Script.run("promise 1: nothing marked, recorded or dropped; space of 12", """
                marked() = 0
                records() = 0
                dropped() = 0
                setSpace(12) = 12
                """);
        Script.run("promise 1: all slots are empty", """
                slotOf(0, 0) = -1
                slotOf(0, 1) = -1
                slotOf(1, 0) = -1
                slotOf(1, 1) = -1
                slotOf(2, 0) = -1
                slotOf(2, 1) = -1
                """);
        Script.run("promise 1: no slot is marked, and cleaning marks no empty one", """
                isMarked(0, 0) = false
                isMarked(0, 1) = false
                isMarked(1, 0) = false
                isMarked(1, 1) = false
                isMarked(2, 0) = false
                isMarked(2, 1) = false
                readAt(0, 0) = 0
                isMarked(0, 0) = false
                isMarked(0, 1) = false
                marked() = 0
                """);
        twoObjectsShareNothing();
        Script.end("NewObjectTest");
    }

    private static void twoObjectsShareNothing() {
        UndoCellar one = new UndoCellar();
        UndoCellar early = new UndoCellar();
        one.setSpace(1);
        one.begin();
        one.write(0, 0, 5);
        one.commit(0);
        one.readAt(1, 0);
        String untouched = State.of(new UndoCellar(), Script.MOST_CALLS);
        Script.due("promise 1: an object made ahead of another one's calls",
                State.of(early, Script.MOST_CALLS), untouched);
        Script.due("promise 1: an object made behind them: its moment",
                String.valueOf(new UndoCellar().moment()), "0");
        Script.due("promise 1: an object made behind them: its value", String.valueOf(new UndoCellar().now(0)), "0");
        Script.due("promise 1: an object made behind them: its transactions",
                String.valueOf(new UndoCellar().transactions()), "0");
    }
}
