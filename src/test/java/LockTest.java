/** Promise 15, lockOf; ReadTest has its wrong arguments. */
public final class LockTest {
    public static void main(String[] args) {
        Script.run("promise 15: the one that changed it last, as long as it is active", """
                lockOf(11) = -1
                begin() = 0
                begin() = 1
                lockOf(0) = -1
                write(1, 0, 1) = 0
                lockOf(0) = 1
                lockOf(1) = -1
                read(0, 0) = 0
                lockOf(0) = 1
                write(1, 0, 2) = 1
                commit(1) = 1
                lockOf(0) = -1
                write(0, 0, 3) = 2
                lockOf(0) = 0
                undo(0) = 1
                lockOf(0) = -1
                """);
        Script.run("promise 15: by a change that is not undone", """
                begin() = 0
                write(0, 0, 1) = 0
                write(0, 0, 2) = 1
                undoTo(0, 1) = 1
                lockOf(0) = 0
                undoTo(0, 0) = 1
                lockOf(0) = -1
                begin() = 1
                write(1, 0, 3) = 0
                lockOf(0) = 1
                """);
        Script.run("promise 15: a dropped record locks nothing and frees nothing", """
                setSpace(1) = 12
                begin() = 0
                write(0, 0, 1) = 0
                commit(0) = 1
                begin() = 1
                write(1, 0, 2) = 1
                lockOf(0) = 1
                undoTo(1, 0) = 1
                lockOf(0) = -1
                """);
        Script.end("LockTest");
    }
}
