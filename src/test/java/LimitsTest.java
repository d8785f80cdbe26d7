/** What is full: 60 transactions, 30 records to read back through, 512 calls. */
public final class LimitsTest {
    public static void main(String[] args) {
        sixtyTransactions();
        thirtyRecords();
        asManyCallsAsThereCanBe();
        Script.end("LimitsTest");
    }

    private static void sixtyTransactions() {
        StringBuilder calls = new StringBuilder();
        for (int transaction = 0; transaction < 60; transaction++) {
            calls.append("begin() = ").append(transaction).append('\n');
            calls.append("write(").append(transaction).append(", 0, ").append(transaction + 1).append(") = ");
            calls.append(transaction).append('\n');
            calls.append("commit(").append(transaction).append(") = ").append(transaction + 1).append('\n');
        }
        Script.run("promises 4, 10 and 18: 60 transactions, one behind the other, in one slot", calls + """
                moment() = 60
                slotOf(0, 0) = 59
                slotOf(0, 1) = -1
                marked() = 59
                records() = 12
                dropped() = 48
                readAt(60, 0) = 60
                marked() = 60
                readAt(48, 0) = 48
                readAt(47, 0) throws NoSuchElementException
                readAt(61, 0) throws IllegalArgumentException
                write(60, 0, 0) throws IndexOutOfBoundsException
                write(59, 0, 0) throws IllegalStateException
                begin() throws IllegalStateException
                """ + Script.times(60, "versionAt(#, 0) = #") + "versionAt(60, 0) = 60\n");
    }

    private static void thirtyRecords() {
        StringBuilder calls = new StringBuilder("setSpace(30) = 12\nbegin() = 0\nbegin() = 1\n");
        for (int value = 1; value <= 30; value++) {
            calls.append("write(1, 0, ").append(value).append(") = ").append(value - 1).append('\n');
        }
        Script.run("promises 5 and 6: back through 30 changes, and too late by the first one dropped", calls + """
                read(0, 0) = 0
                commit(1) = 1
                read(0, 0) = 0
                readAt(0, 0) = 0
                begin() = 2
                write(2, 1, 1) = 0
                dropped() = 1
                read(0, 0) throws NoSuchElementException
                readAt(0, 0) throws NoSuchElementException
                readAt(1, 0) = 30
                read(2, 0) = 30
                versionAt(0, 0) = 0
                """);
        Script.run("promise 8: 30 changes undone, the latest one first", calls + """
                save(1) = 30
                undoTo(1, 31) throws IllegalArgumentException
                undoTo(1, 30) = 0
                undoTo(1, 29) = 1
                now(0) = 29
                undoTo(1, 1) = 28
                now(0) = 1
                undo(1) = 1
                now(0) = 0
                records() = 30
                """);
    }

    private static void asManyCallsAsThereCanBe() {
        StringBuilder calls = new StringBuilder("setSpace(30) = 12\n");
        for (int transaction = 0; transaction < 16; transaction++) {
            calls.append("begin() = ").append(transaction).append('\n');
            calls.append(Script.times(30, "write(" + transaction + ", 0, 0) = 0"));
            if (transaction < 15) {
                calls.append("commit(").append(transaction).append(") = ").append(transaction + 1).append('\n');
            }
        }
        Script.run("promise 4: 512 calls, as many of them writes as space allows", calls.toString());
        String refused = """
                write(0, 0, 1) throws IndexOutOfBoundsException
                readAt(1, 0) throws IllegalArgumentException
                setSpace(31) throws IllegalArgumentException
                """;
        Script.run("calls that are refused use up nothing", refused.repeat(165) + """
                begin() = 0
                """ + Script.times(12, "write(0, #, 1) = 0") + """
                commit(0) = 1
                readAt(1, 11) = 1
                records() = 12
                setSpace(30) = 12
                """);
    }
}
