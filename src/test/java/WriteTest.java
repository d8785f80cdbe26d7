/** Promise 4, write; of space SpaceTest tells more, of slots SlotsTest. */
public final class WriteTest {
    public static void main(String[] args) {
        values();
        wrongArguments();
        whichIsFirst();
        refusals();
        asManyAsThereCanBe();
        Script.end("WriteTest");
    }

    private static void values() {
        Script.run("promise 4: the value before, whoever wrote it", """
                begin() = 0
                write(0, 3, 7) = 0
                write(0, 3, -7) = 7
                now(3) = -7
                commit(0) = 1
                begin() = 1
                write(1, 3, 9) = -7
                now(3) = 9
                now(2) = 0
                now(4) = 0
                undo(1) = 1
                begin() = 2
                write(2, 3, 1) = -7
                """);
        Script.run("promise 4: the ends of the values", """
                begin() = 0
                write(0, 0, 1000000) = 0
                write(0, 0, -1000000) = 1000000
                write(0, 0, 1000001) throws IllegalArgumentException
                write(0, 0, -1000001) throws IllegalArgumentException
                write(0, 0, 2147483647) throws IllegalArgumentException
                write(0, 0, -2147483648) throws IllegalArgumentException
                now(0) = -1000000
                """);
        Script.run("promise 4: the same value again is a change, too", """
                begin() = 0
                write(0, 0, 0) = 0
                write(0, 0, 0) = 0
                save(0) = 2
                records() = 2
                lockOf(0) = 0
                """);
        Script.run("promise 4: a row that was committed by another one since the beginning can be written", """
                begin() = 0
                begin() = 1
                write(1, 0, 5) = 0
                commit(1) = 1
                write(0, 0, 6) = 5
                read(0, 0) = 6
                """);
    }

    private static void wrongArguments() {
        Script.run("promise 4: no such transaction or row", """
                write(0, 0, 0) throws IndexOutOfBoundsException
                begin() = 0
                write(-1, 0, 0) throws IndexOutOfBoundsException
                write(1, 0, 0) throws IndexOutOfBoundsException
                write(2147483647, 0, 0) throws IndexOutOfBoundsException
                write(-2147483648, 0, 0) throws IndexOutOfBoundsException
                write(0, -1, 0) throws IndexOutOfBoundsException
                write(0, 12, 0) throws IndexOutOfBoundsException
                write(0, 2147483647, 0) throws IndexOutOfBoundsException
                write(0, -2147483648, 0) throws IndexOutOfBoundsException
                write(0, 11, 0) = 0
                """);
    }

    private static void whichIsFirst() {
        Script.run("promise 4: the exception that is named first", """
                begin() = 0
                commit(0) = 1
                write(1, 0, 1000001) throws IndexOutOfBoundsException
                write(0, 12, 1000001) throws IndexOutOfBoundsException
                write(0, 12, 0) throws IndexOutOfBoundsException
                write(0, 0, 1000001) throws IllegalArgumentException
                write(0, 0, 0) throws IllegalStateException
                """);
    }

    private static void refusals() {
        Script.run("promise 4: the transaction is not active", """
                begin() = 0
                begin() = 1
                commit(0) = 1
                undo(1) = 0
                write(0, 0, 1) throws IllegalStateException
                write(1, 0, 1) throws IllegalStateException
                """);
        Script.run("promise 4: the row is locked by another one", """
                begin() = 0
                begin() = 1
                write(0, 0, 1) = 0
                write(1, 0, 2) throws IllegalStateException
                write(1, 1, 2) = 0
                undoTo(0, 0) = 1
                write(1, 0, 2) = 0
                write(0, 0, 1) throws IllegalStateException
                commit(1) = 1
                write(0, 0, 1) = 2
                """);
        Script.run("promise 4: a refused write leaves all marks as they were", """
                begin() = 0
                begin() = 1
                begin() = 2
                write(0, 0, 1) = 0
                write(1, 1, 1) = 0
                commit(0) = 1
                write(2, 1, 1) throws IllegalStateException
                isMarked(0, 0) = false
                marked() = 0
                setSpace(2) = 12
                write(1, 2, 1) = 0
                isMarked(0, 0) = true
                marked() = 1
                """);
        Script.run("promise 4: no space, and the marks stay, too", """
                setSpace(2) = 12
                begin() = 0
                begin() = 1
                begin() = 2
                write(0, 0, 1) = 0
                write(1, 1, 1) = 0
                commit(1) = 1
                write(2, 2, 1) throws IllegalStateException
                isMarked(0, 1) = false
                slotOf(0, 1) = 1
                marked() = 0
                dropped() = 0
                """);
    }

    private static void asManyAsThereCanBe() {
        StringBuilder calls = new StringBuilder("setSpace(30) = 12\n");
        for (int transaction = 0; transaction < 16; transaction++) {
            calls.append("begin() = ").append(transaction).append('\n');
            calls.append(Script.times(30, "write(" + transaction + ", 0, 0) = 0"));
            if (transaction < 15) {
                calls.append("commit(").append(transaction).append(") = ").append(transaction + 1).append('\n');
            }
        }
        Script.run("promise 4: 512 calls, as many of them writes as space allows", calls.toString());
    }
}
