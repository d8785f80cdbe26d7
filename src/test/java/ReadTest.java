/** Promises 5, 6, 13 and 14: read, readAt, now, versionAt; and the paragraph on reads. */
public final class ReadTest {
    public static void main(String[] args) {
        readsOfATransaction();
        tooLateForATransaction();
        whoCanNotRead();
        readsAsOfAMoment();
        tooLateForAMoment();
        valuesOfNow();
        versions();
        wrongRowsAndMoments();
        cleaning();
        Script.end("ReadTest");
    }

    private static void readsOfATransaction() {
        Script.run("promise 5: its own changes, the latest one", """
                begin() = 0
                write(0, 0, 5) = 0
                read(0, 0) = 5
                write(0, 0, 6) = 5
                read(0, 0) = 6
                undoTo(0, 1) = 1
                read(0, 0) = 5
                undoTo(0, 0) = 1
                read(0, 0) = 0
                """);
        Script.run("promise 5: nothing of others who are active", """
                begin() = 0
                begin() = 1
                write(0, 0, 5) = 0
                write(0, 0, 6) = 5
                read(1, 0) = 0
                begin() = 2
                read(2, 0) = 0
                """);
        Script.run("promise 5: nothing that was committed behind its beginning", """
                begin() = 0
                begin() = 1
                write(1, 0, 5) = 0
                commit(1) = 1
                read(0, 0) = 0
                now(0) = 5
                """);
        Script.run("promise 5: what was committed at the moment as of which it began", """
                begin() = 0
                write(0, 0, 5) = 0
                commit(0) = 1
                begin() = 1
                read(1, 0) = 5
                begin() = 2
                commit(2) = 2
                read(1, 0) = 5
                begin() = 3
                read(3, 0) = 5
                """);
        Script.run("promise 5: its own change above one that it does not see", """
                begin() = 0
                begin() = 1
                write(1, 0, 5) = 0
                commit(1) = 1
                write(0, 0, 7) = 5
                read(0, 0) = 7
                undoTo(0, 0) = 1
                read(0, 0) = 0
                now(0) = 5
                """);
        Script.run("promise 5: several commits are gone back through, and active ones", """
                begin() = 0
                begin() = 1
                write(1, 4, 1) = 0
                commit(1) = 1
                begin() = 2
                begin() = 3
                write(2, 4, 2) = 1
                write(2, 4, 3) = 2
                commit(2) = 2
                begin() = 4
                write(4, 4, 4) = 3
                read(0, 4) = 0
                read(3, 4) = 1
                read(4, 4) = 4
                """);
        Script.run("promise 5: of a transaction that was undone nothing is seen", """
                begin() = 0
                write(0, 4, 1) = 0
                undo(0) = 1
                begin() = 1
                read(1, 4) = 0
                """);
        Script.run("promise 5: of a transaction that was committed its void changes are not seen", """
                begin() = 0
                write(0, 4, 1) = 0
                write(0, 4, 2) = 1
                undoTo(0, 1) = 1
                write(0, 5, 3) = 0
                undoTo(0, 1) = 1
                commit(0) = 1
                begin() = 1
                read(1, 4) = 1
                read(1, 5) = 0
                """);
        Script.run("promise 5: changes of other rows are passed over", """
                begin() = 0
                begin() = 1
                write(1, 0, 1) = 0
                write(1, 1, 2) = 0
                write(1, 0, 3) = 1
                write(1, 2, 4) = 0
                commit(1) = 1
                read(0, 0) = 0
                read(0, 1) = 0
                read(0, 3) = 0
                begin() = 2
                read(2, 0) = 3
                read(2, 1) = 2
                """);
        Script.run("promise 5: a read makes no change, no record and no slot", """
                begin() = 0
                read(0, 0) = 0
                save(0) = 0
                records() = 0
                lockOf(0) = -1
                slotOf(0, 0) = -1
                """);
    }

    private static void tooLateForATransaction() {
        Script.run("promise 5: too late once the record of the change ahead of it was dropped", """
                setSpace(1) = 12
                begin() = 0
                begin() = 1
                write(1, 0, 5) = 0
                commit(1) = 1
                read(0, 0) = 0
                begin() = 2
                write(2, 4, 6) = 0
                dropped() = 1
                read(0, 0) throws NoSuchElementException
                read(0, 1) = 0
                read(2, 0) = 5
                """);
        Script.run("promise 5: too late by the oldest one alone, though the later ones have their records", """
                setSpace(2) = 12
                begin() = 0
                begin() = 1
                write(1, 0, 5) = 0
                commit(1) = 1
                begin() = 2
                write(2, 0, 6) = 5
                read(0, 0) = 0
                write(2, 0, 7) = 6
                dropped() = 1
                read(0, 0) throws NoSuchElementException
                begin() = 3
                read(3, 0) = 5
                read(2, 0) = 7
                """);
        Script.run("promise 5: a read that came too late comes too late again, the others do not", """
                setSpace(1) = 12
                begin() = 0
                begin() = 1
                write(1, 0, 5) = 0
                commit(1) = 1
                begin() = 2
                write(2, 4, 6) = 0
                read(0, 0) throws NoSuchElementException
                read(0, 0) throws NoSuchElementException
                read(0, 4) = 0
                setSpace(30) = 1
                read(0, 0) throws NoSuchElementException
                commit(0) = 2
                """);
        Script.run("promise 5: a dropped record of a change that is seen hinders none", """
                setSpace(1) = 12
                begin() = 0
                write(0, 0, 5) = 0
                commit(0) = 1
                begin() = 1
                begin() = 2
                write(2, 0, 6) = 5
                dropped() = 1
                read(1, 0) = 5
                """);
        Script.run("promise 5: a dropped record of a void change hinders none", """
                setSpace(1) = 12
                begin() = 0
                begin() = 1
                write(1, 0, 5) = 0
                undo(1) = 1
                begin() = 2
                write(2, 4, 6) = 0
                dropped() = 1
                read(0, 0) = 0
                """);
        Script.run("promise 5: a dropped record of another row's change hinders none", """
                setSpace(1) = 12
                begin() = 0
                begin() = 1
                write(1, 1, 5) = 0
                commit(1) = 1
                begin() = 2
                write(2, 0, 6) = 0
                dropped() = 1
                read(0, 0) = 0
                read(0, 1) throws NoSuchElementException
                """);
        Script.run("promise 5: its own change is seen before a dropped record is come to", """
                setSpace(1) = 12
                begin() = 0
                begin() = 1
                write(1, 0, 5) = 0
                commit(1) = 1
                write(0, 0, 6) = 5
                dropped() = 1
                read(0, 0) = 6
                undoTo(0, 0) = 1
                read(0, 0) throws NoSuchElementException
                """);
        Script.run("promise 5: too late even if the value was the same", """
                setSpace(1) = 12
                begin() = 0
                begin() = 1
                write(1, 0, 0) = 0
                commit(1) = 1
                begin() = 2
                write(2, 4, 6) = 0
                read(0, 0) throws NoSuchElementException
                """);
    }

    private static void whoCanNotRead() {
        Script.run("promise 5: no such transaction", """
                read(0, 0) throws IndexOutOfBoundsException
                begin() = 0
                read(1, 0) throws IndexOutOfBoundsException
                read(-1, 0) throws IndexOutOfBoundsException
                read(60, 0) throws IndexOutOfBoundsException
                read(2147483647, 0) throws IndexOutOfBoundsException
                read(-2147483648, 0) throws IndexOutOfBoundsException
                read(0, 0) = 0
                """);
        Script.run("promise 5: row 0 to 11, its ends, and no such row", """
                begin() = 0
                write(0, 0, 1) = 0
                write(0, 11, 2) = 0
                read(0, 0) = 1
                read(0, 11) = 2
                read(0, 12) throws IndexOutOfBoundsException
                read(0, -1) throws IndexOutOfBoundsException
                read(0, 2147483647) throws IndexOutOfBoundsException
                read(0, -2147483648) throws IndexOutOfBoundsException
                """);
        Script.run("promise 5: the transaction is not active", """
                begin() = 0
                begin() = 1
                commit(0) = 1
                undo(1) = 0
                read(0, 0) throws IllegalStateException
                read(1, 0) throws IllegalStateException
                """);
    }

    private static void readsAsOfAMoment() {
        Script.run("promise 6: moment 0 to that of now, each one's value", """
                begin() = 0
                write(0, 11, 1) = 0
                write(0, 11, 2) = 1
                readAt(0, 11) = 0
                commit(0) = 1
                begin() = 1
                write(1, 11, 3) = 2
                commit(1) = 2
                begin() = 2
                commit(2) = 3
                readAt(0, 11) = 0
                readAt(1, 11) = 2
                readAt(2, 11) = 3
                readAt(3, 11) = 3
                readAt(3, 10) = 0
                """);
        Script.run("promise 6: an active one's change never", """
                begin() = 0
                write(0, 0, 1) = 0
                readAt(0, 0) = 0
                begin() = 1
                commit(1) = 1
                readAt(1, 0) = 0
                commit(0) = 2
                readAt(1, 0) = 0
                readAt(2, 0) = 1
                """);
        Script.run("promise 6: a moment is a commit's, not a beginning's nor a write's", """
                begin() = 0
                begin() = 1
                write(0, 0, 1) = 0
                write(1, 1, 2) = 0
                commit(1) = 1
                commit(0) = 2
                readAt(1, 0) = 0
                readAt(1, 1) = 2
                readAt(2, 0) = 1
                """);
        Script.run("promise 6: void changes are passed over", """
                begin() = 0
                write(0, 0, 1) = 0
                commit(0) = 1
                begin() = 1
                write(1, 0, 2) = 1
                undo(1) = 1
                begin() = 2
                write(2, 0, 3) = 1
                commit(2) = 2
                readAt(0, 0) = 0
                readAt(1, 0) = 1
                readAt(2, 0) = 3
                """);
    }

    private static void tooLateForAMoment() {
        Script.run("promise 6: too late for the moment ahead of the dropped change, not for its own", """
                setSpace(2) = 12
                begin() = 0
                write(0, 0, 1) = 0
                write(0, 0, 2) = 1
                commit(0) = 1
                readAt(0, 0) = 0
                begin() = 1
                write(1, 0, 3) = 2
                commit(1) = 2
                dropped() = 1
                readAt(0, 0) throws NoSuchElementException
                readAt(1, 0) = 2
                readAt(2, 0) = 3
                begin() = 2
                write(2, 5, 1) = 0
                readAt(1, 0) = 2
                write(2, 6, 1) = 0
                dropped() = 3
                readAt(1, 0) throws NoSuchElementException
                readAt(2, 0) = 3
                """);
        Script.run("promise 6: a moment of now is never too late, even with every record dropped", """
                setSpace(1) = 12
                begin() = 0
                write(0, 0, 1) = 0
                commit(0) = 1
                begin() = 1
                write(1, 4, 2) = 0
                commit(1) = 2
                readAt(2, 0) = 1
                readAt(2, 4) = 2
                readAt(1, 0) = 1
                readAt(1, 4) = 0
                readAt(0, 0) throws NoSuchElementException
                """);
    }

    private static void valuesOfNow() {
        Script.run("promise 13: the value of now, committed or not", """
                begin() = 0
                write(0, 11, 5) = 0
                now(11) = 5
                commit(0) = 1
                now(11) = 5
                begin() = 1
                write(1, 11, 6) = 5
                now(11) = 6
                undo(1) = 1
                now(11) = 5
                """);
    }

    private static void versions() {
        Script.run("promise 14: a version never comes too late", """
                setSpace(1) = 12
                begin() = 0
                write(0, 0, 1) = 0
                commit(0) = 1
                begin() = 1
                write(1, 0, 2) = 1
                undoTo(1, 0) = 1
                commit(1) = 2
                begin() = 2
                write(2, 0, 3) = 1
                commit(2) = 3
                begin() = 3
                write(3, 0, 4) = 3
                versionAt(0, 0) = 0
                versionAt(1, 0) = 1
                versionAt(2, 0) = 1
                versionAt(3, 0) = 3
                readAt(0, 0) throws NoSuchElementException
                readAt(1, 0) throws NoSuchElementException
                readAt(3, 0) = 3
                """);
        Script.run("promise 14: of a committed transaction the last value that is not void", """
                begin() = 0
                write(0, 0, 1) = 0
                write(0, 0, 2) = 1
                write(0, 0, 3) = 2
                undoTo(0, 2) = 1
                versionAt(0, 0) = 0
                commit(0) = 1
                versionAt(0, 0) = 0
                versionAt(1, 0) = 2
                """);
        Script.run("promise 14: of a transaction that was undone nothing", """
                begin() = 0
                write(0, 0, 1) = 0
                undo(0) = 1
                begin() = 1
                commit(1) = 1
                versionAt(0, 0) = 0
                versionAt(1, 0) = 0
                """);
        Script.run("promise 14: rows have versions each for itself", """
                begin() = 0
                begin() = 1
                write(0, 0, 1) = 0
                write(1, 11, 2) = 0
                commit(1) = 1
                commit(0) = 2
                versionAt(1, 0) = 0
                versionAt(1, 11) = 2
                versionAt(2, 0) = 1
                versionAt(2, 11) = 2
                versionAt(2, 5) = 0
                """);
    }

    private static void wrongRowsAndMoments() {
        for (String call : new String[] {"readAt", "versionAt"}) {
            Script.run("promises 6 and 14: no such row", """
                    CALL(0, 0) = 0
                    CALL(0, 11) = 0
                    CALL(0, 12) throws IndexOutOfBoundsException
                    CALL(0, -1) throws IndexOutOfBoundsException
                    CALL(0, 2147483647) throws IndexOutOfBoundsException
                    CALL(0, -2147483648) throws IndexOutOfBoundsException
                    """.replace("CALL", call));
            Script.run("promises 6 and 14: a moment below 0", """
                    CALL(-1, 0) throws IllegalArgumentException
                    CALL(-2147483648, 0) throws IllegalArgumentException
                    CALL(0, 0) = 0
                    begin() = 0
                    commit(0) = 1
                    CALL(-1, 0) throws IllegalArgumentException
                    """.replace("CALL", call));
            Script.run("promises 6 and 14: a moment behind that of now, which grows with it", """
                    CALL(1, 0) throws IllegalArgumentException
                    CALL(2147483647, 0) throws IllegalArgumentException
                    begin() = 0
                    CALL(1, 0) throws IllegalArgumentException
                    commit(0) = 1
                    CALL(1, 0) = 0
                    CALL(2, 0) throws IllegalArgumentException
                    begin() = 1
                    undo(1) = 0
                    CALL(2, 0) throws IllegalArgumentException
                    """.replace("CALL", call));
        }
        Script.run("promise 13: row 0 to 11: no such row", """
                now(0) = 0
                now(11) = 0
                now(-1) throws IndexOutOfBoundsException
                now(12) throws IndexOutOfBoundsException
                now(2147483647) throws IndexOutOfBoundsException
                now(-2147483648) throws IndexOutOfBoundsException
                """);
    }

    private static void cleaning() {
        Script.run("promise 6: readAt cleans its block, and no other", """
                begin() = 0
                write(0, 0, 1) = 0
                write(0, 4, 1) = 0
                write(0, 8, 1) = 0
                commit(0) = 1
                marked() = 0
                readAt(0, 3) = 0
                isMarked(0, 0) = true
                isMarked(1, 0) = false
                isMarked(2, 0) = false
                marked() = 1
                readAt(1, 11) = 0
                isMarked(2, 0) = true
                isMarked(1, 0) = false
                marked() = 2
                """);
        Script.run("promise 5: read cleans its block, and no other", """
                begin() = 0
                begin() = 1
                write(0, 0, 1) = 0
                write(0, 4, 1) = 0
                write(0, 8, 1) = 0
                undo(0) = 3
                read(1, 7) = 0
                isMarked(1, 0) = true
                isMarked(0, 0) = false
                isMarked(2, 0) = false
                marked() = 1
                """);
        Script.run("promises 5 and 6: a read of a row that nobody changed cleans the block, too", """
                begin() = 0
                begin() = 1
                write(0, 0, 1) = 0
                write(0, 4, 1) = 0
                commit(0) = 1
                read(1, 3) = 0
                isMarked(0, 0) = true
                readAt(1, 7) = 0
                isMarked(1, 0) = true
                marked() = 2
                """);
        Script.run("promises 13 to 20: asking what there is cleans nothing", """
                begin() = 0
                write(0, 0, 1) = 0
                commit(0) = 1
                versionAt(1, 0) = 1
                now(0) = 1
                lockOf(0) = -1
                slotOf(0, 0) = 0
                isMarked(0, 0) = false
                records() = 1
                dropped() = 0
                moment() = 1
                transactions() = 1
                marked() = 0
                isMarked(0, 0) = false
                """);
    }
}
