/** Promises 2, 19 and 20: setSpace, records, dropped; and the paragraph on undo space. */
public final class SpaceTest {
    public static void main(String[] args) {
        sizes();
        notBelowTheRecords();
        fullSpace();
        droppingTheOldest();
        noSpace();
        recordsStay();
        Script.end("SpaceTest");
    }

    private static void sizes() {
        Script.run("promise 2: size 1 to 30, its ends", """
                setSpace(1) = 12
                setSpace(30) = 1
                setSpace(2) = 30
                setSpace(29) = 2
                setSpace(1) = 29
                """);
        Script.run("promise 2: a size too small, and the size stays", """
                setSpace(0) throws IllegalArgumentException
                setSpace(-1) throws IllegalArgumentException
                setSpace(-12) throws IllegalArgumentException
                setSpace(-2147483648) throws IllegalArgumentException
                setSpace(5) = 12
                setSpace(0) throws IllegalArgumentException
                setSpace(6) = 5
                """);
        Script.run("promise 2: a size too large, and the size stays", """
                setSpace(31) throws IllegalArgumentException
                setSpace(32) throws IllegalArgumentException
                setSpace(2147483647) throws IllegalArgumentException
                setSpace(5) = 12
                setSpace(31) throws IllegalArgumentException
                setSpace(6) = 5
                """);
        Script.run("promise 2: the size before, the same size, too", """
                setSpace(12) = 12
                setSpace(7) = 12
                setSpace(7) = 7
                setSpace(8) = 7
                """);
    }

    private static void notBelowTheRecords() {
        Script.run("promise 2: as many records as the size are not more than that", """
                begin() = 0
                write(0, 0, 1) = 0
                setSpace(1) = 12
                setSpace(2) = 1
                write(0, 0, 2) = 1
                setSpace(1) throws IllegalStateException
                setSpace(2) = 2
                """);
        Script.run("promise 2: more records than that, and the size stays", """
                begin() = 0
                write(0, 0, 1) = 0
                write(0, 1, 1) = 0
                write(0, 2, 1) = 0
                setSpace(2) throws IllegalStateException
                setSpace(1) throws IllegalStateException
                setSpace(3) = 12
                """);
        Script.run("promise 2: void records are there, too", """
                begin() = 0
                write(0, 0, 1) = 0
                write(0, 1, 1) = 0
                undoTo(0, 0) = 2
                setSpace(1) throws IllegalStateException
                undo(0) = 0
                setSpace(1) throws IllegalStateException
                setSpace(2) = 12
                """);
        Script.run("promise 2: records of those who have committed are there, too", """
                begin() = 0
                write(0, 0, 1) = 0
                write(0, 1, 1) = 0
                commit(0) = 1
                setSpace(1) throws IllegalStateException
                readAt(1, 0) = 1
                setSpace(1) throws IllegalStateException
                setSpace(2) = 12
                """);
        Script.run("promise 2: dropped records are not there", """
                setSpace(1) = 12
                begin() = 0
                write(0, 0, 1) = 0
                commit(0) = 1
                begin() = 1
                write(1, 0, 2) = 1
                commit(1) = 2
                begin() = 2
                write(2, 0, 3) = 2
                dropped() = 2
                setSpace(1) = 1
                """);
    }

    private static void fullSpace() {
        Script.run("promise 2: the size is 12 at first",
                "begin() = 0\n" + Script.times(12, "write(0, #, 1) = 0") + """
                records() = 12
                write(0, 0, 2) throws IllegalStateException
                setSpace(12) = 12
                write(0, 0, 2) throws IllegalStateException
                setSpace(13) = 12
                write(0, 0, 2) = 1
                records() = 13
                write(0, 0, 3) throws IllegalStateException
                """);
        Script.run("promise 2: 30 records, the most",
                "setSpace(30) = 12\nbegin() = 0\n" + Script.times(30, "write(0, 5, 0) = 0") + """
                records() = 30
                write(0, 5, 0) throws IllegalStateException
                setSpace(29) throws IllegalStateException
                setSpace(30) = 30
                dropped() = 0
                commit(0) = 1
                begin() = 1
                write(1, 5, 0) = 0
                records() = 30
                dropped() = 1
                """);
        Script.run("promise 2: a single record, the fewest", """
                setSpace(1) = 12
                begin() = 0
                write(0, 0, 1) = 0
                write(0, 0, 2) throws IllegalStateException
                commit(0) = 1
                begin() = 1
                write(1, 0, 2) = 1
                records() = 1
                dropped() = 1
                write(1, 0, 3) throws IllegalStateException
                """);
        Script.run("promise 2: a larger size drops nothing until it is full again", """
                setSpace(1) = 12
                begin() = 0
                write(0, 0, 1) = 0
                commit(0) = 1
                setSpace(2) = 1
                begin() = 1
                write(1, 1, 1) = 0
                dropped() = 0
                records() = 2
                write(1, 1, 2) = 1
                dropped() = 1
                records() = 2
                """);
        Script.run("promise 2: a smaller size drops nothing by itself", """
                begin() = 0
                write(0, 0, 1) = 0
                write(0, 1, 1) = 0
                commit(0) = 1
                setSpace(2) = 12
                dropped() = 0
                records() = 2
                readAt(0, 0) = 0
                begin() = 1
                write(1, 2, 1) = 0
                dropped() = 1
                records() = 2
                """);
    }

    private static void droppingTheOldest() {
        Script.run("promises 19 and 20: nothing is dropped while there is one record less than the size", """
                setSpace(3) = 12
                begin() = 0
                records() = 0
                write(0, 0, 1) = 0
                records() = 1
                write(0, 1, 1) = 0
                records() = 2
                commit(0) = 1
                begin() = 1
                write(1, 2, 1) = 0
                records() = 3
                dropped() = 0
                readAt(0, 0) = 0
                write(1, 3, 1) = 0
                records() = 3
                dropped() = 1
                readAt(0, 0) throws NoSuchElementException
                """);
        Script.run("promises 19 and 20: the oldest one is dropped, one a change", """
                setSpace(2) = 12
                begin() = 0
                write(0, 0, 1) = 0
                write(0, 1, 1) = 0
                commit(0) = 1
                records() = 2
                dropped() = 0
                begin() = 1
                write(1, 2, 1) = 0
                records() = 2
                dropped() = 1
                readAt(0, 0) throws NoSuchElementException
                readAt(0, 1) = 0
                write(1, 3, 1) = 0
                records() = 2
                dropped() = 2
                readAt(0, 1) throws NoSuchElementException
                readAt(0, 2) = 0
                """);
        Script.run("promise 20: the oldest is the one that was made first, not the one that was committed first", """
                setSpace(2) = 12
                begin() = 0
                begin() = 1
                write(0, 0, 1) = 0
                write(1, 4, 1) = 0
                commit(1) = 1
                commit(0) = 2
                begin() = 2
                write(2, 8, 1) = 0
                dropped() = 1
                readAt(0, 4) = 0
                readAt(0, 0) throws NoSuchElementException
                """);
        Script.run("promise 20: a void record of a transaction that was undone is dropped, too", """
                setSpace(2) = 12
                begin() = 0
                write(0, 0, 1) = 0
                write(0, 0, 2) = 1
                undo(0) = 2
                records() = 2
                begin() = 1
                write(1, 0, 3) = 0
                dropped() = 1
                records() = 2
                readAt(0, 0) = 0
                """);
        Script.run("promise 20: a void record of a transaction that was committed is dropped, too", """
                setSpace(1) = 12
                begin() = 0
                write(0, 0, 1) = 0
                undoTo(0, 0) = 1
                commit(0) = 1
                begin() = 1
                write(1, 0, 3) = 0
                dropped() = 1
                records() = 1
                """);
    }

    private static void noSpace() {
        Script.run("promise 4: no space while the oldest record's transaction is active, though others ended", """
                setSpace(2) = 12
                begin() = 0
                begin() = 1
                write(0, 0, 1) = 0
                write(1, 4, 1) = 0
                commit(1) = 1
                begin() = 2
                write(2, 8, 1) throws IllegalStateException
                dropped() = 0
                commit(0) = 2
                write(2, 8, 1) = 0
                dropped() = 1
                write(2, 8, 2) = 1
                dropped() = 2
                write(2, 8, 3) throws IllegalStateException
                """);
        Script.run("promise 4: no space while the oldest record's transaction is active, though it is void", """
                setSpace(1) = 12
                begin() = 0
                begin() = 1
                write(0, 0, 1) = 0
                undoTo(0, 0) = 1
                write(1, 4, 1) throws IllegalStateException
                dropped() = 0
                undo(0) = 0
                write(1, 4, 1) = 0
                dropped() = 1
                """);
        Script.run("promise 4: the writer's own oldest record is not dropped either", """
                setSpace(1) = 12
                begin() = 0
                write(0, 0, 1) = 0
                write(0, 0, 2) throws IllegalStateException
                undoTo(0, 0) = 1
                write(0, 0, 2) throws IllegalStateException
                records() = 1
                dropped() = 0
                """);
        Script.run("promise 20: a write that is refused drops nothing", """
                setSpace(3) = 12
                begin() = 0
                write(0, 0, 1) = 0
                commit(0) = 1
                begin() = 1
                begin() = 2
                begin() = 3
                write(1, 4, 1) = 0
                write(2, 5, 1) = 0
                write(2, 4, 2) throws IllegalStateException
                write(3, 6, 2) throws IllegalStateException
                write(0, 8, 2) throws IllegalStateException
                write(3, 8, 1000001) throws IllegalArgumentException
                write(3, 12, 1) throws IndexOutOfBoundsException
                dropped() = 0
                records() = 3
                write(3, 8, 2) = 0
                dropped() = 1
                records() = 3
                """);
    }

    private static void recordsStay() {
        Script.run("promise 19: undoing drops no record", """
                begin() = 0
                write(0, 0, 1) = 0
                write(0, 0, 1) = 1
                records() = 2
                undoTo(0, 1) = 1
                records() = 2
                undo(0) = 1
                records() = 2
                dropped() = 0
                """);
        Script.run("promise 19: committing and reading drop no record", """
                begin() = 0
                write(0, 0, 1) = 0
                records() = 1
                commit(0) = 1
                records() = 1
                readAt(1, 0) = 1
                begin() = 1
                read(1, 0) = 1
                records() = 1
                dropped() = 0
                """);
        Script.run("promise 19: one record a change, one of the same value, too", """
                begin() = 0
                write(0, 0, 0) = 0
                records() = 1
                write(0, 0, 0) = 0
                records() = 2
                """);
    }
}
