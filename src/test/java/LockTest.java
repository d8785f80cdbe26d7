/** Promise 15, lockOf. */
public final class LockTest {
    public static void main(String[] args) {
        Script.run("promise 15: NONE for a row that nobody changed, a reader locks nothing", """
                lockOf(0) = -1
                lockOf(11) = -1
                begin() = 0
                read(0, 0) = 0
                readAt(0, 0) = 0
                lockOf(0) = -1
                """);
        Script.run("promise 15: the one that changed it last, and only that row", """
                begin() = 0
                begin() = 1
                write(1, 0, 1) = 0
                lockOf(0) = 1
                lockOf(1) = -1
                write(0, 11, 1) = 0
                lockOf(11) = 0
                lockOf(0) = 1
                """);
        Script.run("promise 15: as long as that is active: not behind its commit", """
                begin() = 0
                write(0, 0, 1) = 0
                write(0, 0, 2) = 1
                lockOf(0) = 0
                commit(0) = 1
                lockOf(0) = -1
                """);
        Script.run("promise 15: as long as that is active: not behind its undo", """
                begin() = 0
                write(0, 0, 1) = 0
                lockOf(0) = 0
                undo(0) = 1
                lockOf(0) = -1
                """);
        Script.run("promise 15: by a change that is not undone", """
                begin() = 0
                write(0, 0, 1) = 0
                write(0, 0, 2) = 1
                undoTo(0, 1) = 1
                lockOf(0) = 0
                undoTo(0, 0) = 1
                lockOf(0) = -1
                begin() = 1
                write(1, 0, 3) = 0
                lockOf(0) = 1
                commit(0) = 1
                lockOf(0) = 1
                """);
        Script.run("promise 15: below an undone change stands one that is committed", """
                begin() = 0
                write(0, 0, 1) = 0
                commit(0) = 1
                begin() = 1
                write(1, 0, 2) = 1
                lockOf(0) = 1
                undoTo(1, 0) = 1
                lockOf(0) = -1
                """);
        Script.run("promise 15: a dropped record locks nothing and frees nothing", """
                setSpace(1) = 12
                begin() = 0
                write(0, 0, 1) = 0
                commit(0) = 1
                begin() = 1
                write(1, 4, 2) = 0
                dropped() = 1
                lockOf(0) = -1
                lockOf(4) = 1
                undoTo(1, 0) = 1
                lockOf(4) = -1
                """);
        Script.run("promise 15: a read that comes too late for a row frees no lock", """
                setSpace(1) = 12
                begin() = 0
                begin() = 1
                write(1, 0, 1) = 0
                commit(1) = 1
                begin() = 2
                write(2, 0, 2) = 1
                read(0, 0) throws NoSuchElementException
                lockOf(0) = 2
                """);
        Script.run("promise 15: row 0 to 11: no such row", """
                lockOf(-1) throws IndexOutOfBoundsException
                lockOf(12) throws IndexOutOfBoundsException
                lockOf(2147483647) throws IndexOutOfBoundsException
                lockOf(-2147483648) throws IndexOutOfBoundsException
                """);
        Script.end("LockTest");
    }
}
