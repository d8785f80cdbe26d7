/** Promises 7, 8 and 9: save, undoTo, undo. */
public final class UndoTest {
    public static void main(String[] args) {
        savepoints();
        undoingToASavepoint();
        undoingAsAWhole();
        wrongArguments();
        Script.end("UndoTest");
    }

    private static void savepoints() {
        Script.run("promise 7: how many of its changes are not void", """
                begin() = 0
                begin() = 1
                save(0) = 0
                write(0, 0, 1) = 0
                write(1, 1, 1) = 0
                save(0) = 1
                save(0) = 1
                write(0, 0, 2) = 1
                write(0, 4, 2) = 0
                save(0) = 3
                save(1) = 1
                undoTo(0, 1) = 2
                save(0) = 1
                write(0, 0, 3) = 1
                save(0) = 2
                save(1) = 1
                """);
    }

    private static void undoingToASavepoint() {
        Script.run("promise 8: the latest changes, the latest one first", """
                begin() = 0
                write(0, 0, 1) = 0
                write(0, 0, 2) = 1
                write(0, 1, 3) = 0
                write(0, 0, 4) = 2
                undoTo(0, 4) = 0
                now(0) = 4
                undoTo(0, 2) = 2
                now(0) = 2
                now(1) = 0
                lockOf(0) = 0
                lockOf(1) = -1
                undoTo(0, 3) throws IllegalArgumentException
                write(0, 2, 5) = 0
                undoTo(0, 1) = 2
                now(0) = 1
                now(2) = 0
                undoTo(0, 0) = 1
                now(0) = 0
                undoTo(0, 0) = 0
                undoTo(0, 1) throws IllegalArgumentException
                """);
        Script.run("promise 8: other transactions' changes stay", """
                begin() = 0
                begin() = 1
                write(0, 0, 1) = 0
                write(1, 1, 2) = 0
                write(0, 2, 3) = 0
                write(1, 3, 4) = 0
                undoTo(0, 0) = 2
                now(0) = 0
                now(1) = 2
                now(2) = 0
                now(3) = 4
                lockOf(1) = 1
                """);
        Script.run("promise 8: it goes on, keeps its slot, and marks nothing", """
                begin() = 0
                begin() = 1
                write(1, 1, 1) = 0
                write(0, 0, 1) = 0
                commit(1) = 1
                undoTo(0, 0) = 1
                slotOf(0, 1) = 0
                isMarked(0, 1) = false
                isMarked(0, 0) = false
                marked() = 0
                write(0, 0, 2) = 0
                slotOf(0, 1) = 0
                commit(0) = 2
                """);
    }

    private static void undoingAsAWhole() {
        Script.run("promise 9: all its changes, and it is not active any more", """
                begin() = 0
                write(0, 0, 1) = 0
                commit(0) = 1
                begin() = 1
                write(1, 0, 2) = 1
                write(1, 0, 3) = 2
                write(1, 5, 4) = 0
                write(1, 5, 5) = 4
                undoTo(1, 3) = 1
                undo(1) = 3
                now(0) = 1
                now(5) = 0
                lockOf(0) = -1
                lockOf(5) = -1
                moment() = 1
                write(1, 0, 2) throws IllegalStateException
                read(1, 0) throws IllegalStateException
                save(1) throws IllegalStateException
                undoTo(1, 0) throws IllegalStateException
                undo(1) throws IllegalStateException
                commit(1) throws IllegalStateException
                begin() = 2
                undo(2) = 0
                """);
        Script.run("promise 9: its slot is kept and marked only when somebody comes by", """
                begin() = 0
                write(0, 0, 1) = 0
                undo(0) = 1
                slotOf(0, 0) = 0
                isMarked(0, 0) = false
                readAt(0, 0) = 0
                isMarked(0, 0) = true
                marked() = 1
                """);
    }

    private static void wrongArguments() {
        for (String call : new String[] {"save(#)", "undoTo(#, 0)", "undo(#)"}) {
            Script.run("promises 7 to 9: no such transaction, or not active", ("""
                    CALL0 throws IndexOutOfBoundsException
                    begin() = 0
                    CALL-1 throws IndexOutOfBoundsException
                    CALL1 throws IndexOutOfBoundsException
                    CALL2147483647 throws IndexOutOfBoundsException
                    CALL-2147483648 throws IndexOutOfBoundsException
                    CALL0 = 0
                    begin() = 1
                    commit(1) = 1
                    CALL1 throws IllegalStateException
                    """).replaceAll("CALL(\\S+)", call.replace("#", "$1")));
        }
        Script.run("promise 8: what can't be kept, and which exception is first", """
                begin() = 0
                write(0, 0, 1) = 0
                undoTo(0, 2) throws IllegalArgumentException
                undoTo(0, -1) throws IllegalArgumentException
                undoTo(0, 2147483647) throws IllegalArgumentException
                undoTo(0, -2147483648) throws IllegalArgumentException
                undoTo(1, -1) throws IndexOutOfBoundsException
                commit(0) = 1
                undoTo(0, -1) throws IllegalStateException
                undoTo(0, 1) throws IllegalStateException
                """);
    }
}
