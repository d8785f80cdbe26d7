/** Promises 3, 10, 11 and 12: begin, commit, moment, transactions. */
public final class TransactionsTest {
    public static void main(String[] args) {
        Script.run("promise 3: numbers from 0, 60 of them, ended ones counted",
                Script.times(59, "begin() = #") + """
                transactions() = 59
                commit(0) = 1
                undo(1) = 0
                begin() = 59
                begin() throws IllegalStateException
                commit(2) = 2
                begin() throws IllegalStateException
                transactions() = 60
                commit(59) = 3
                commit(60) throws IndexOutOfBoundsException
                """);
        Script.run("promise 3: as of the moment of now", """
                begin() = 0
                begin() = 1
                write(0, 0, 5) = 0
                commit(0) = 1
                begin() = 2
                read(1, 0) = 0
                read(2, 0) = 5
                """);
        Script.run("promises 10 and 11: each commit makes the moment 1 more, one without changes, too", """
                begin() = 0
                begin() = 1
                begin() = 2
                moment() = 0
                commit(1) = 1
                moment() = 1
                undo(2) = 0
                moment() = 1
                commit(0) = 2
                moment() = 2
                """);
        Script.run("promise 10: who can't commit", """
                commit(0) throws IndexOutOfBoundsException
                commit(-1) throws IndexOutOfBoundsException
                begin() = 0
                begin() = 1
                commit(2) throws IndexOutOfBoundsException
                commit(2147483647) throws IndexOutOfBoundsException
                commit(-2147483648) throws IndexOutOfBoundsException
                commit(0) = 1
                commit(0) throws IllegalStateException
                undo(1) = 0
                commit(1) throws IllegalStateException
                moment() = 1
                """);
        Script.run("promise 10: a commit frees the locks and makes the changes seen from its moment on", """
                begin() = 0
                write(0, 0, 5) = 0
                readAt(0, 0) = 0
                commit(0) = 1
                lockOf(0) = -1
                now(0) = 5
                readAt(0, 0) = 0
                readAt(1, 0) = 5
                """);
        Script.run("promise 12: how many have begun", """
                transactions() = 0
                begin() = 0
                transactions() = 1
                begin() = 1
                commit(0) = 1
                undo(1) = 0
                transactions() = 2
                """);
        Script.end("TransactionsTest");
    }
}
