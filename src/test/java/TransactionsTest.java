/** Promises 3, 10, 11 and 12: begin, commit, moment, transactions; and the paragraph on moments. */
public final class TransactionsTest {
    public static void main(String[] args) {
        beginning();
        committing();
        moments();
        whoCanNotCommit();
        Script.end("TransactionsTest");
    }

    private static void beginning() {
        Script.run("promise 3: numbered from 0 as they begin, whatever became of those before", """
                begin() = 0
                begin() = 1
                undo(1) = 0
                begin() = 2
                commit(0) = 1
                begin() = 3
                """);
        Script.run("promise 3: 60 can begin, no more", Script.times(60, "begin() = #") + """
                transactions() = 60
                begin() throws IllegalStateException
                begin() throws IllegalStateException
                transactions() = 60
                commit(59) = 1
                commit(60) throws IndexOutOfBoundsException
                """);
        Script.run("promise 3: of the 60 those who ended are counted, too",
                Script.times(59, "begin() = #") + """
                commit(0) = 1
                undo(1) = 0
                begin() = 59
                begin() throws IllegalStateException
                commit(2) = 2
                undo(3) = 0
                begin() throws IllegalStateException
                transactions() = 60
                """);
        Script.run("promise 3: as of the moment of now", """
                begin() = 0
                begin() = 1
                write(0, 0, 5) = 0
                commit(0) = 1
                begin() = 2
                read(1, 0) = 0
                read(2, 0) = 5
                """);
        Script.run("promise 12: how many have begun, those who ended among them", """
                transactions() = 0
                begin() = 0
                transactions() = 1
                begin() = 1
                transactions() = 2
                commit(0) = 1
                undo(1) = 0
                transactions() = 2
                """);
    }

    private static void committing() {
        Script.run("promise 10: the changes are seen from its moment on", """
                begin() = 0
                write(0, 0, 5) = 0
                readAt(0, 0) = 0
                commit(0) = 1
                now(0) = 5
                readAt(0, 0) = 0
                readAt(1, 0) = 5
                """);
        Script.run("promise 10: it frees the locks", """
                begin() = 0
                write(0, 0, 5) = 0
                write(0, 4, 5) = 0
                commit(0) = 1
                lockOf(0) = -1
                lockOf(4) = -1
                begin() = 1
                write(1, 0, 6) = 5
                """);
        Script.run("promise 10: it is not active any more", """
                begin() = 0
                commit(0) = 1
                write(0, 0, 1) throws IllegalStateException
                read(0, 0) throws IllegalStateException
                save(0) throws IllegalStateException
                undoTo(0, 0) throws IllegalStateException
                undo(0) throws IllegalStateException
                commit(0) throws IllegalStateException
                """);
    }

    private static void moments() {
        Script.run("promises 10 and 11: the moment is 0 at first, and each commit has one more", """
                begin() = 0
                begin() = 1
                moment() = 0
                write(1, 0, 1) = 0
                moment() = 0
                commit(1) = 1
                moment() = 1
                write(0, 1, 1) = 0
                commit(0) = 2
                moment() = 2
                """);
        Script.run("promises 10 and 11: a commit without any change has a moment, too", """
                begin() = 0
                begin() = 1
                commit(1) = 1
                write(0, 0, 1) = 0
                undoTo(0, 0) = 1
                commit(0) = 2
                moment() = 2
                """);
        Script.run("promise 11: neither a beginning nor an undo makes a moment", """
                begin() = 0
                write(0, 0, 1) = 0
                undoTo(0, 0) = 1
                moment() = 0
                undo(0) = 0
                moment() = 0
                begin() = 1
                commit(1) = 1
                moment() = 1
                """);
    }

    private static void whoCanNotCommit() {
        Script.run("promise 10: no such transaction", """
                commit(0) throws IndexOutOfBoundsException
                commit(-1) throws IndexOutOfBoundsException
                begin() = 0
                commit(-1) throws IndexOutOfBoundsException
                commit(1) throws IndexOutOfBoundsException
                commit(2147483647) throws IndexOutOfBoundsException
                commit(-2147483648) throws IndexOutOfBoundsException
                commit(0) = 1
                """);
        Script.run("promise 10: it is not active, committed or undone", """
                begin() = 0
                begin() = 1
                commit(0) = 1
                commit(0) throws IllegalStateException
                undo(1) = 0
                commit(1) throws IllegalStateException
                moment() = 1
                """);
    }
}
