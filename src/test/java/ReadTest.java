/** Promises 5, 6, 13 and 14: read, readAt, now, versionAt. */
public final class ReadTest {
    public static void main(String[] args) {
        readsOfATransaction();
        tooLateForATransaction();
        readsAsOfAMoment();
        wrongArguments();
        nowAndVersions();
        cleaning();
        Script.end("ReadTest");
    }

    private static void readsOfATransaction() {
        Script.run("promise 5: its own changes, and otherwise as of its beginning", """
                begin() = 0
                begin() = 1
                write(0, 0, 5) = 0
                read(0, 0) = 5
                read(1, 0) = 0
                write(0, 0, 6) = 5
                read(0, 0) = 6
                commit(0) = 1
                read(1, 0) = 0
                write(1, 0, 7) = 6
                read(1, 0) = 7
                undoTo(1, 0) = 1
                read(1, 0) = 0
                now(0) = 6
                begin() = 2
                read(2, 0) = 6
                """);
        Script.run("promise 5: several commits are gone back through, and active ones", """
                begin() = 0
                begin() = 1
                write(1, 4, 1) = 0
                commit(1) = 1
                begin() = 2
                begin() = 3
                write(2, 4, 2) = 1
                write(2, 4, 3) = 2
                commit(2) = 2
                begin() = 4
                write(4, 4, 4) = 3
                read(0, 4) = 0
                read(3, 4) = 1
                read(4, 4) = 4
                """);
        Script.run("promise 5: of a transaction that was undone nothing is seen", """
                begin() = 0
                write(0, 4, 1) = 0
                undo(0) = 1
                begin() = 1
                read(1, 4) = 0
                """);
        Script.run("promise 5: a commit without changes is seen by none", """
                begin() = 0
                begin() = 1
                commit(1) = 1
                read(0, 0) = 0
                """);
    }

    private static void tooLateForATransaction() {
        Script.run("promise 5: too late once a record that is needed was dropped, and nothing is cleaned then", """
                setSpace(1) = 12
                begin() = 0
                begin() = 1
                write(1, 0, 5) = 0
                commit(1) = 1
                begin() = 2
                read(0, 0) = 0
                marked() = 1
                write(2, 1, 6) = 0
                commit(2) = 2
                dropped() = 1
                read(0, 0) throws NoSuchElementException
                isMarked(0, 0) = false
                marked() = 1
                read(0, 1) = 0
                isMarked(0, 0) = true
                marked() = 2
                begin() = 3
                read(3, 0) = 5
                """);
        Script.run("promise 5: a dropped record of a change that is seen, or void, hinders none", """
                setSpace(1) = 12
                begin() = 0
                write(0, 0, 5) = 0
                commit(0) = 1
                begin() = 1
                begin() = 2
                write(2, 0, 6) = 5
                read(1, 0) = 5
                undo(2) = 1
                begin() = 3
                write(3, 4, 1) = 0
                dropped() = 2
                read(1, 0) = 5
                read(3, 0) = 5
                """);
        Script.run("promise 5: its own change is seen before a dropped record is come to", """
                setSpace(1) = 12
                begin() = 0
                begin() = 1
                write(1, 0, 5) = 0
                commit(1) = 1
                write(0, 0, 6) = 5
                dropped() = 1
                read(0, 0) = 6
                undoTo(0, 0) = 1
                read(0, 0) throws NoSuchElementException
                """);
    }

    private static void readsAsOfAMoment() {
        Script.run("promise 6: each moment's value, an active change never", """
                begin() = 0
                write(0, 11, 1) = 0
                write(0, 11, 2) = 1
                readAt(0, 11) = 0
                commit(0) = 1
                begin() = 1
                write(1, 11, 3) = 2
                readAt(0, 11) = 0
                readAt(1, 11) = 2
                commit(1) = 2
                begin() = 2
                commit(2) = 3
                readAt(0, 11) = 0
                readAt(1, 11) = 2
                readAt(2, 11) = 3
                readAt(3, 11) = 3
                readAt(3, 10) = 0
                """);
        Script.run("promise 6: a moment is a commit's, not a beginning's", """
                begin() = 0
                begin() = 1
                write(0, 0, 1) = 0
                write(1, 1, 2) = 0
                commit(1) = 1
                commit(0) = 2
                readAt(1, 0) = 0
                readAt(1, 1) = 2
                readAt(2, 0) = 1
                """);
        Script.run("promise 6: too late", """
                setSpace(2) = 12
                begin() = 0
                write(0, 0, 1) = 0
                write(0, 0, 2) = 1
                commit(0) = 1
                begin() = 1
                write(1, 0, 3) = 2
                commit(1) = 2
                readAt(0, 0) throws NoSuchElementException
                readAt(1, 0) = 2
                readAt(2, 0) = 3
                begin() = 2
                write(2, 5, 1) = 0
                write(2, 6, 1) = 0
                readAt(1, 0) throws NoSuchElementException
                readAt(2, 0) = 3
                """);
    }

    private static void wrongArguments() {
        Script.run("promise 5: who can't read what", """
                read(0, 0) throws IndexOutOfBoundsException
                begin() = 0
                read(1, 0) throws IndexOutOfBoundsException
                read(-1, 0) throws IndexOutOfBoundsException
                read(2147483647, 0) throws IndexOutOfBoundsException
                read(-2147483648, 0) throws IndexOutOfBoundsException
                read(0, 12) throws IndexOutOfBoundsException
                read(0, -1) throws IndexOutOfBoundsException
                read(0, 2147483647) throws IndexOutOfBoundsException
                read(0, -2147483648) throws IndexOutOfBoundsException
                read(0, 11) = 0
                begin() = 1
                commit(0) = 1
                undo(1) = 0
                read(0, 0) throws IllegalStateException
                read(1, 0) throws IllegalStateException
                read(0, 12) throws IndexOutOfBoundsException
                """);
        Script.run("promise 5: not active is told before too late", """
                setSpace(1) = 12
                begin() = 0
                begin() = 1
                write(1, 0, 5) = 0
                commit(1) = 1
                begin() = 2
                write(2, 1, 6) = 0
                read(0, 0) throws NoSuchElementException
                commit(0) = 2
                read(0, 0) throws IllegalStateException
                """);
        for (String call : new String[] {"readAt", "versionAt"}) {
            Script.run("promises 6 and 14: the row first, then the moment", """
                    CALL(0, 12) throws IndexOutOfBoundsException
                    CALL(0, -1) throws IndexOutOfBoundsException
                    CALL(0, 2147483647) throws IndexOutOfBoundsException
                    CALL(0, -2147483648) throws IndexOutOfBoundsException
                    CALL(1, 12) throws IndexOutOfBoundsException
                    CALL(-1, -1) throws IndexOutOfBoundsException
                    CALL(1, 0) throws IllegalArgumentException
                    CALL(-1, 0) throws IllegalArgumentException
                    CALL(2147483647, 0) throws IllegalArgumentException
                    CALL(-2147483648, 0) throws IllegalArgumentException
                    begin() = 0
                    CALL(1, 0) throws IllegalArgumentException
                    commit(0) = 1
                    CALL(1, 0) = 0
                    CALL(2, 0) throws IllegalArgumentException
                    """.replace("CALL", call));
        }
        for (String call : new String[] {"now", "lockOf"}) {
            Script.run("promises 13 and 15: no such row", """
                    CALL(-1) throws IndexOutOfBoundsException
                    CALL(12) throws IndexOutOfBoundsException
                    CALL(2147483647) throws IndexOutOfBoundsException
                    CALL(-2147483648) throws IndexOutOfBoundsException
                    """.replace("CALL", call));
        }
    }

    private static void nowAndVersions() {
        Script.run("promise 13: the value of now, committed or not", """
                begin() = 0
                write(0, 11, 5) = 0
                now(11) = 5
                commit(0) = 1
                now(11) = 5
                begin() = 1
                write(1, 11, 6) = 5
                now(11) = 6
                undo(1) = 1
                now(11) = 5
                """);
        Script.run("promise 14: a version is never too late", """
                setSpace(1) = 12
                begin() = 0
                write(0, 0, 1) = 0
                commit(0) = 1
                begin() = 1
                write(1, 0, 2) = 1
                undoTo(1, 0) = 1
                commit(1) = 2
                begin() = 2
                write(2, 0, 3) = 1
                commit(2) = 3
                begin() = 3
                write(3, 0, 4) = 3
                versionAt(0, 0) = 0
                versionAt(1, 0) = 1
                versionAt(2, 0) = 1
                versionAt(3, 0) = 3
                readAt(0, 0) throws NoSuchElementException
                readAt(1, 0) throws NoSuchElementException
                readAt(3, 0) = 3
                """);
        Script.run("promise 14: of a committed transaction the last value that is not void", """
                begin() = 0
                write(0, 0, 1) = 0
                write(0, 0, 2) = 1
                write(0, 0, 3) = 2
                undoTo(0, 2) = 1
                versionAt(0, 0) = 0
                commit(0) = 1
                versionAt(0, 0) = 0
                versionAt(1, 0) = 2
                """);
    }

    private static void cleaning() {
        Script.run("promises 5 and 6: a read cleans its block, and no other", """
                begin() = 0
                begin() = 1
                write(0, 0, 1) = 0
                write(0, 4, 1) = 0
                write(0, 8, 1) = 0
                commit(0) = 1
                marked() = 0
                readAt(0, 3) = 0
                isMarked(0, 0) = true
                isMarked(1, 0) = false
                isMarked(2, 0) = false
                marked() = 1
                read(1, 7) = 0
                isMarked(1, 0) = true
                isMarked(2, 0) = false
                marked() = 2
                readAt(0, 0) = 0
                marked() = 2
                """);
        Script.run("promise 14: versionAt and now clean nothing", """
                begin() = 0
                write(0, 0, 1) = 0
                commit(0) = 1
                versionAt(1, 0) = 1
                now(0) = 1
                lockOf(0) = -1
                slotOf(0, 0) = 0
                isMarked(0, 0) = false
                marked() = 0
                """);
    }
}
