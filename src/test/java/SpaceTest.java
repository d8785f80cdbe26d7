/** Promises 2, 19 and 20: setSpace, records, dropped. */
public final class SpaceTest {
    public static void main(String[] args) {
        sizes();
        droppingTheOldest();
        noSpace();
        recordsStay();
        Script.end("SpaceTest");
    }

    private static void sizes() {
        Script.run("promise 2: the size before, its first and its ends", """
                setSpace(1) = 12
                setSpace(30) = 1
                setSpace(0) throws IllegalArgumentException
                setSpace(31) throws IllegalArgumentException
                setSpace(-1) throws IllegalArgumentException
                setSpace(2147483647) throws IllegalArgumentException
                setSpace(-2147483648) throws IllegalArgumentException
                setSpace(7) = 30
                """);
        Script.run("promise 2: not below the records that are there, void ones among them", """
                begin() = 0
                write(0, 0, 1) = 0
                write(0, 1, 1) = 0
                write(0, 2, 1) = 0
                undoTo(0, 1) = 2
                setSpace(2) throws IllegalStateException
                setSpace(0) throws IllegalArgumentException
                setSpace(3) = 12
                commit(0) = 1
                setSpace(2) throws IllegalStateException
                setSpace(3) = 3
                """);
        Script.run("promise 2: 12 records at first, then as many as are set",
                "begin() = 0\n" + Script.times(12, "write(0, #, 1) = 0") + """
                write(0, 0, 2) throws IllegalStateException
                setSpace(13) = 12
                write(0, 0, 2) = 1
                write(0, 0, 3) throws IllegalStateException
                setSpace(30) = 13
                write(0, 5, 0) = 1
                """ + Script.times(16, "write(0, 5, 0) = 0") + """
                records() = 30
                write(0, 5, 0) throws IllegalStateException
                dropped() = 0
                """);
        Script.run("promise 2: a larger size drops nothing any more", """
                setSpace(1) = 12
                begin() = 0
                write(0, 0, 1) = 0
                commit(0) = 1
                setSpace(2) = 1
                begin() = 1
                write(1, 1, 1) = 0
                dropped() = 0
                records() = 2
                write(1, 1, 2) = 1
                dropped() = 1
                records() = 2
                """);
    }

    private static void droppingTheOldest() {
        Script.run("promises 19 and 20: the oldest one is dropped, one a change, and only when space is needed", """
                setSpace(2) = 12
                begin() = 0
                write(0, 0, 1) = 0
                write(0, 1, 1) = 0
                records() = 2
                dropped() = 0
                commit(0) = 1
                records() = 2
                dropped() = 0
                begin() = 1
                write(1, 2, 1) = 0
                records() = 2
                dropped() = 1
                readAt(0, 0) throws NoSuchElementException
                readAt(0, 1) = 0
                write(1, 3, 1) = 0
                records() = 2
                dropped() = 2
                readAt(0, 1) throws NoSuchElementException
                readAt(0, 2) = 0
                """);
        Script.run("promise 20: a void record is dropped, too, once its transaction has ended", """
                setSpace(2) = 12
                begin() = 0
                write(0, 0, 1) = 0
                write(0, 0, 2) = 1
                undo(0) = 2
                records() = 2
                begin() = 1
                write(1, 0, 3) = 0
                dropped() = 1
                records() = 2
                readAt(0, 0) = 0
                """);
    }

    private static void noSpace() {
        Script.run("promise 4: no space while the oldest record's transaction is active, void or not", """
                setSpace(2) = 12
                begin() = 0
                begin() = 1
                write(0, 0, 1) = 0
                undoTo(0, 0) = 1
                write(1, 4, 1) = 0
                commit(1) = 1
                begin() = 2
                write(2, 8, 1) throws IllegalStateException
                dropped() = 0
                commit(0) = 2
                write(2, 8, 1) = 0
                dropped() = 1
                write(2, 8, 2) = 1
                dropped() = 2
                write(2, 8, 3) throws IllegalStateException
                """);
        Script.run("promise 4: the writer's own oldest record is not dropped either", """
                setSpace(1) = 12
                begin() = 0
                write(0, 0, 1) = 0
                write(0, 0, 2) throws IllegalStateException
                undoTo(0, 0) = 1
                write(0, 0, 2) throws IllegalStateException
                records() = 1
                dropped() = 0
                """);
    }

    private static void recordsStay() {
        Script.run("promise 19: undoing, committing and reading drop no record", """
                begin() = 0
                write(0, 0, 1) = 0
                write(0, 0, 1) = 1
                records() = 2
                undoTo(0, 1) = 1
                records() = 2
                undo(0) = 1
                records() = 2
                begin() = 1
                write(1, 0, 1) = 0
                commit(1) = 1
                records() = 3
                readAt(1, 0) = 1
                records() = 3
                dropped() = 0
                """);
    }
}
