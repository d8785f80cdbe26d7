/** "If several exceptions apply, the one that its @throws lines name first is thrown", call by call. */
public final class OrderTest {
    public static void main(String[] args) {
        writes();
        reads();
        others();
        Script.end("OrderTest");
    }

    private static void writes() {
        Script.run("promise 4: no such transaction, ahead of a value out of range", """
                write(0, 0, 1000001) throws IndexOutOfBoundsException
                write(-1, 0, -1000001) throws IndexOutOfBoundsException
                """);
        Script.run("promise 4: no such row, ahead of a value out of range", """
                begin() = 0
                write(0, 12, 1000001) throws IndexOutOfBoundsException
                write(0, -1, -1000001) throws IndexOutOfBoundsException
                """);
        Script.run("promise 4: no such row, ahead of not active", """
                begin() = 0
                commit(0) = 1
                write(0, 12, 0) throws IndexOutOfBoundsException
                write(0, -1, 1000001) throws IndexOutOfBoundsException
                """);
        Script.run("promise 4: no such row, ahead of no space", """
                setSpace(1) = 12
                begin() = 0
                write(0, 0, 1) = 0
                write(0, 0, 2) throws IllegalStateException
                write(0, 12, 2) throws IndexOutOfBoundsException
                """);
        Script.run("promise 4: a value out of range, ahead of not active", """
                begin() = 0
                commit(0) = 1
                write(0, 0, 1000001) throws IllegalArgumentException
                write(0, 0, -1000001) throws IllegalArgumentException
                write(0, 0, 1000000) throws IllegalStateException
                """);
        Script.run("promise 4: a value out of range, ahead of a lock", """
                begin() = 0
                begin() = 1
                write(0, 0, 1) = 0
                write(1, 0, 1000001) throws IllegalArgumentException
                write(1, 0, 1000000) throws IllegalStateException
                """);
        Script.run("promise 4: a value out of range, ahead of no slot", """
                begin() = 0
                begin() = 1
                begin() = 2
                write(0, 0, 1) = 0
                write(1, 1, 1) = 0
                write(2, 2, 1000001) throws IllegalArgumentException
                write(2, 2, 1000000) throws IllegalStateException
                """);
        Script.run("promise 4: a value out of range, ahead of no space", """
                setSpace(1) = 12
                begin() = 0
                write(0, 0, 1) = 0
                write(0, 0, 1000001) throws IllegalArgumentException
                write(0, 0, 1000000) throws IllegalStateException
                """);
    }

    private static void reads() {
        Script.run("promise 5: no such row, ahead of not active", """
                begin() = 0
                commit(0) = 1
                read(0, 12) throws IndexOutOfBoundsException
                read(0, -1) throws IndexOutOfBoundsException
                read(0, 0) throws IllegalStateException
                """);
        Script.run("promise 5: not active, ahead of too late", """
                setSpace(1) = 12
                begin() = 0
                begin() = 1
                write(1, 0, 5) = 0
                commit(1) = 1
                begin() = 2
                write(2, 1, 6) = 0
                read(0, 0) throws NoSuchElementException
                commit(0) = 2
                read(0, 0) throws IllegalStateException
                """);
        for (String call : new String[] {"readAt", "versionAt"}) {
            Script.run("promises 6 and 14: no such row, ahead of a moment out of range", """
                    CALL(1, 12) throws IndexOutOfBoundsException
                    CALL(-1, -1) throws IndexOutOfBoundsException
                    CALL(2147483647, 2147483647) throws IndexOutOfBoundsException
                    CALL(1, 11) throws IllegalArgumentException
                    """.replace("CALL", call));
        }
        Script.run("promise 6: a moment out of range, for a row that would come too late", """
                setSpace(1) = 12
                begin() = 0
                write(0, 0, 5) = 0
                commit(0) = 1
                begin() = 1
                write(1, 1, 6) = 0
                readAt(0, 0) throws NoSuchElementException
                readAt(-1, 0) throws IllegalArgumentException
                """);
    }

    private static void others() {
        Script.run("promise 2: out of range, ahead of more records than that", """
                begin() = 0
                write(0, 0, 1) = 0
                write(0, 0, 2) = 1
                setSpace(0) throws IllegalArgumentException
                setSpace(-1) throws IllegalArgumentException
                setSpace(1) throws IllegalStateException
                """);
        Script.run("promise 8: no such transaction, ahead of keep out of range", """
                undoTo(0, -1) throws IndexOutOfBoundsException
                undoTo(0, 1) throws IndexOutOfBoundsException
                begin() = 0
                undoTo(1, -1) throws IndexOutOfBoundsException
                undoTo(-1, 1) throws IndexOutOfBoundsException
                """);
        Script.run("promise 8: not active, ahead of keep out of range", """
                begin() = 0
                begin() = 1
                write(0, 0, 1) = 0
                commit(0) = 1
                undo(1) = 0
                undoTo(0, -1) throws IllegalStateException
                undoTo(0, 2) throws IllegalStateException
                undoTo(1, -1) throws IllegalStateException
                undoTo(1, 1) throws IllegalStateException
                """);
    }
}
