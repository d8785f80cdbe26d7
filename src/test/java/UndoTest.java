/** Promises 7, 8 and 9: save, undoTo, undo. */
public final class UndoTest {
    public static void main(String[] args) {
        savepoints();
        howManyAreKept();
        undoingToASavepoint();
        undoingAsAWhole();
        wrongTransactions();
        Script.end("UndoTest");
    }

    private static void savepoints() {
        Script.run("promise 7: how many of its changes, none at first, no one else's", """
                begin() = 0
                begin() = 1
                save(0) = 0
                write(0, 0, 1) = 0
                write(1, 1, 1) = 0
                save(0) = 1
                save(0) = 1
                write(0, 0, 2) = 1
                write(0, 4, 2) = 0
                save(0) = 3
                save(1) = 1
                """);
        Script.run("promise 7: how many are not void", """
                begin() = 0
                write(0, 0, 1) = 0
                write(0, 0, 2) = 1
                write(0, 1, 3) = 0
                undoTo(0, 1) = 2
                save(0) = 1
                write(0, 0, 3) = 1
                save(0) = 2
                undoTo(0, 0) = 2
                save(0) = 0
                """);
        Script.run("promise 7: a write that was refused is none of its changes", """
                setSpace(1) = 12
                begin() = 0
                begin() = 1
                write(0, 0, 1) = 0
                write(1, 0, 1) throws IllegalStateException
                write(0, 0, 2) throws IllegalStateException
                save(0) = 1
                save(1) = 0
                """);
    }

    private static void howManyAreKept() {
        Script.run("promise 8: keep 0: all are undone", """
                begin() = 0
                write(0, 0, 1) = 0
                write(0, 1, 2) = 0
                undoTo(0, 0) = 2
                now(0) = 0
                now(1) = 0
                save(0) = 0
                """);
        Script.run("promise 8: as many are kept as there are: none is undone", """
                begin() = 0
                undoTo(0, 0) = 0
                write(0, 0, 1) = 0
                write(0, 1, 2) = 0
                undoTo(0, 2) = 0
                now(0) = 1
                now(1) = 2
                save(0) = 2
                """);
        Script.run("promise 8: keep is less than 0", """
                begin() = 0
                undoTo(0, -1) throws IllegalArgumentException
                write(0, 0, 1) = 0
                undoTo(0, -1) throws IllegalArgumentException
                undoTo(0, -2147483648) throws IllegalArgumentException
                now(0) = 1
                """);
        Script.run("promise 8: keep is more than there are", """
                begin() = 0
                begin() = 1
                undoTo(0, 1) throws IllegalArgumentException
                write(0, 0, 1) = 0
                write(1, 1, 1) = 0
                undoTo(0, 2) throws IllegalArgumentException
                undoTo(0, 2147483647) throws IllegalArgumentException
                now(0) = 1
                """);
        Script.run("promise 8: void ones can't be kept", """
                begin() = 0
                write(0, 0, 1) = 0
                write(0, 0, 2) = 1
                undoTo(0, 1) = 1
                undoTo(0, 2) throws IllegalArgumentException
                undoTo(0, 1) = 0
                undoTo(0, 0) = 1
                undoTo(0, 1) throws IllegalArgumentException
                undoTo(0, 0) = 0
                """);
    }

    private static void undoingToASavepoint() {
        Script.run("promise 8: the latest one first, over several rows", """
                begin() = 0
                write(0, 0, 1) = 0
                write(0, 0, 2) = 1
                write(0, 1, 3) = 0
                write(0, 0, 4) = 2
                undoTo(0, 3) = 1
                now(0) = 2
                now(1) = 3
                undoTo(0, 2) = 1
                now(0) = 2
                now(1) = 0
                lockOf(0) = 0
                lockOf(1) = -1
                undoTo(0, 1) = 1
                now(0) = 1
                """);
        Script.run("promise 8: several of one row at once give it the earliest value back", """
                begin() = 0
                write(0, 0, 1) = 0
                write(0, 0, 2) = 1
                write(0, 0, 3) = 2
                write(0, 0, 4) = 3
                undoTo(0, 1) = 3
                now(0) = 1
                """);
        Script.run("promise 8: changes behind an undo are undone before those ahead of it", """
                begin() = 0
                write(0, 0, 1) = 0
                write(0, 1, 2) = 0
                undoTo(0, 1) = 1
                write(0, 2, 5) = 0
                write(0, 1, 6) = 0
                save(0) = 3
                undoTo(0, 1) = 2
                now(0) = 1
                now(1) = 0
                now(2) = 0
                """);
        Script.run("promise 8: other transactions' changes stay", """
                begin() = 0
                begin() = 1
                write(0, 0, 1) = 0
                write(1, 1, 2) = 0
                write(0, 2, 3) = 0
                write(1, 3, 4) = 0
                undoTo(0, 0) = 2
                now(0) = 0
                now(1) = 2
                now(2) = 0
                now(3) = 4
                lockOf(1) = 1
                save(1) = 2
                """);
        Script.run("promise 8: the row has the value ahead, that of another one who committed", """
                begin() = 0
                begin() = 1
                write(1, 0, 5) = 0
                commit(1) = 1
                write(0, 0, 6) = 5
                undoTo(0, 0) = 1
                now(0) = 5
                """);
        Script.run("promise 8: with all undone it is active all the same, and keeps its slot", """
                begin() = 0
                write(0, 0, 1) = 0
                undoTo(0, 0) = 1
                slotOf(0, 0) = 0
                readAt(0, 0) = 0
                isMarked(0, 0) = false
                marked() = 0
                write(0, 0, 2) = 0
                slotOf(0, 0) = 0
                slotOf(0, 1) = -1
                commit(0) = 1
                """);
        Script.run("promises 8 and 9: undoing writes no row: it cleans no block", """
                begin() = 0
                begin() = 1
                write(1, 1, 1) = 0
                write(0, 0, 1) = 0
                write(0, 0, 2) = 1
                commit(1) = 1
                undoTo(0, 1) = 1
                isMarked(0, 0) = false
                undo(0) = 1
                isMarked(0, 0) = false
                marked() = 0
                """);
    }

    private static void undoingAsAWhole() {
        Script.run("promise 9: all its changes, how many there were that were not void", """
                begin() = 0
                write(0, 0, 1) = 0
                commit(0) = 1
                begin() = 1
                write(1, 0, 2) = 1
                write(1, 0, 3) = 2
                write(1, 5, 4) = 0
                write(1, 5, 5) = 4
                undoTo(1, 3) = 1
                undo(1) = 3
                now(0) = 1
                now(5) = 0
                lockOf(0) = -1
                lockOf(5) = -1
                moment() = 1
                """);
        Script.run("promise 9: one without changes, and one with all undone before", """
                begin() = 0
                undo(0) = 0
                begin() = 1
                write(1, 0, 1) = 0
                undoTo(1, 0) = 1
                undo(1) = 0
                """);
        Script.run("promise 9: it is not active any more", """
                begin() = 0
                undo(0) = 0
                write(0, 0, 2) throws IllegalStateException
                read(0, 0) throws IllegalStateException
                save(0) throws IllegalStateException
                undoTo(0, 0) throws IllegalStateException
                undo(0) throws IllegalStateException
                commit(0) throws IllegalStateException
                """);
        Script.run("promise 9: others' changes stay", """
                begin() = 0
                begin() = 1
                write(0, 0, 1) = 0
                write(1, 1, 2) = 0
                undo(0) = 1
                now(1) = 2
                lockOf(1) = 1
                save(1) = 1
                """);
    }

    private static void wrongTransactions() {
        for (String call : new String[] {"save(#)", "undoTo(#, 0)", "undo(#)"}) {
            runFor("promises 7 to 9: no such transaction", call, """
                    CALL0 throws IndexOutOfBoundsException
                    CALL-1 throws IndexOutOfBoundsException
                    begin() = 0
                    CALL-1 throws IndexOutOfBoundsException
                    CALL1 throws IndexOutOfBoundsException
                    CALL60 throws IndexOutOfBoundsException
                    CALL2147483647 throws IndexOutOfBoundsException
                    CALL-2147483648 throws IndexOutOfBoundsException
                    CALL0 = 0
                    """);
            runFor("promises 7 to 9: it was committed", call, """
                    begin() = 0
                    write(0, 0, 1) = 0
                    commit(0) = 1
                    CALL0 throws IllegalStateException
                    now(0) = 1
                    """);
            runFor("promises 7 to 9: it was undone", call, """
                    begin() = 0
                    write(0, 0, 1) = 0
                    undo(0) = 1
                    CALL0 throws IllegalStateException
                    now(0) = 0
                    """);
        }
    }

    private static void runFor(String name, String call, String lines) {
        Script.run(name, lines.replaceAll("CALL(\\S+)", call.replace("#", "$1")));
    }
}
