/** Promise 4, write; of space SpaceTest tells more, of slots SlotsTest. */
public final class WriteTest {
    public static void main(String[] args) {
        values();
        wrongArguments();
        notActiveOrLocked();
        noSlot();
        Script.end("WriteTest");
    }

    private static void values() {
        Script.run("promise 4: the value before, whoever wrote it", """
                begin() = 0
                write(0, 3, 7) = 0
                write(0, 3, -7) = 7
                now(3) = -7
                commit(0) = 1
                begin() = 1
                write(1, 3, 9) = -7
                now(3) = 9
                now(2) = 0
                now(4) = 0
                """);
        Script.run("promise 4: the value before is that of now, not that of the writer's beginning", """
                begin() = 0
                begin() = 1
                write(1, 0, 5) = 0
                commit(1) = 1
                read(0, 0) = 0
                write(0, 0, 6) = 5
                read(0, 0) = 6
                """);
        Script.run("promise 4: behind an undo the value before is the one that was given back", """
                begin() = 0
                write(0, 3, 7) = 0
                write(0, 3, 8) = 7
                undoTo(0, 1) = 1
                write(0, 3, 9) = 7
                undo(0) = 2
                begin() = 1
                write(1, 3, 1) = 0
                """);
        Script.run("promise 4: value -1000000 to 1000000, its ends", """
                begin() = 0
                write(0, 0, 1000000) = 0
                now(0) = 1000000
                write(0, 0, -1000000) = 1000000
                now(0) = -1000000
                write(0, 0, 0) = -1000000
                """);
        Script.run("promise 4: a value too large", """
                begin() = 0
                write(0, 0, 1000001) throws IllegalArgumentException
                write(0, 0, 2147483647) throws IllegalArgumentException
                now(0) = 0
                """);
        Script.run("promise 4: a value too small", """
                begin() = 0
                write(0, 0, -1000001) throws IllegalArgumentException
                write(0, 0, -2147483648) throws IllegalArgumentException
                now(0) = 0
                """);
        Script.run("promise 4: the same value again is a change, too", """
                begin() = 0
                write(0, 0, 0) = 0
                write(0, 0, 0) = 0
                save(0) = 2
                records() = 2
                lockOf(0) = 0
                slotOf(0, 0) = 0
                """);
    }

    private static void wrongArguments() {
        Script.run("promise 4: no such transaction", """
                write(0, 0, 0) throws IndexOutOfBoundsException
                begin() = 0
                write(-1, 0, 0) throws IndexOutOfBoundsException
                write(1, 0, 0) throws IndexOutOfBoundsException
                write(60, 0, 0) throws IndexOutOfBoundsException
                write(2147483647, 0, 0) throws IndexOutOfBoundsException
                write(-2147483648, 0, 0) throws IndexOutOfBoundsException
                write(0, 0, 0) = 0
                """);
        Script.run("promise 4: row 0 to 11, its ends", """
                begin() = 0
                write(0, 0, 1) = 0
                write(0, 11, 2) = 0
                now(0) = 1
                now(11) = 2
                """);
        Script.run("promise 4: no such row", """
                begin() = 0
                write(0, -1, 0) throws IndexOutOfBoundsException
                write(0, 12, 0) throws IndexOutOfBoundsException
                write(0, 2147483647, 0) throws IndexOutOfBoundsException
                write(0, -2147483648, 0) throws IndexOutOfBoundsException
                """);
    }

    private static void notActiveOrLocked() {
        Script.run("promise 4: the transaction was committed", """
                begin() = 0
                write(0, 0, 1) = 0
                commit(0) = 1
                write(0, 0, 2) throws IllegalStateException
                write(0, 8, 2) throws IllegalStateException
                now(0) = 1
                """);
        Script.run("promise 4: the transaction was undone", """
                begin() = 0
                write(0, 0, 1) = 0
                undo(0) = 1
                write(0, 0, 2) throws IllegalStateException
                write(0, 8, 2) throws IllegalStateException
                now(0) = 0
                """);
        Script.run("promise 4: the row is locked by another one, and only the row", """
                begin() = 0
                begin() = 1
                write(0, 0, 1) = 0
                write(1, 0, 2) throws IllegalStateException
                write(1, 1, 2) = 0
                write(0, 1, 2) throws IllegalStateException
                write(0, 0, 3) = 1
                """);
        Script.run("promise 4: the row can be written once its changes are undone", """
                begin() = 0
                begin() = 1
                write(0, 0, 1) = 0
                write(0, 0, 2) = 1
                undoTo(0, 1) = 1
                write(1, 0, 3) throws IllegalStateException
                undoTo(0, 0) = 1
                write(1, 0, 3) = 0
                write(0, 0, 1) throws IllegalStateException
                """);
        Script.run("promise 4: the row can be written once the one that locked it has ended", """
                begin() = 0
                begin() = 1
                write(0, 0, 1) = 0
                write(0, 1, 1) = 0
                write(1, 0, 2) throws IllegalStateException
                commit(0) = 1
                write(1, 0, 2) = 1
                undo(1) = 1
                begin() = 2
                write(2, 0, 3) = 1
                """);
    }

    private static void noSlot() {
        Script.run("promise 4: no slot while two others who are active have both", """
                begin() = 0
                begin() = 1
                begin() = 2
                write(0, 0, 1) = 0
                write(1, 1, 1) = 0
                write(2, 2, 1) throws IllegalStateException
                write(2, 3, 1) throws IllegalStateException
                write(2, 4, 1) = 0
                write(0, 2, 1) = 0
                write(1, 3, 1) = 0
                """);
        Script.run("promise 4: no slot, though all changes of the others are undone: they are active", """
                begin() = 0
                begin() = 1
                begin() = 2
                write(0, 0, 1) = 0
                write(1, 1, 1) = 0
                undoTo(0, 0) = 1
                undoTo(1, 0) = 1
                write(2, 0, 1) throws IllegalStateException
                commit(1) = 1
                write(2, 0, 1) = 0
                """);
        Script.run("promise 4: a slot of one that ended can be had behind cleaning, though it was not marked", """
                begin() = 0
                begin() = 1
                begin() = 2
                write(0, 0, 1) = 0
                write(1, 1, 1) = 0
                commit(1) = 1
                isMarked(0, 1) = false
                write(2, 2, 1) = 0
                slotOf(0, 0) = 0
                slotOf(0, 1) = 2
                marked() = 1
                """);
        Script.run("promise 4: a slot that was marked before can be had", """
                begin() = 0
                begin() = 1
                begin() = 2
                write(0, 0, 1) = 0
                write(1, 1, 1) = 0
                undo(0) = 1
                readAt(0, 3) = 0
                isMarked(0, 0) = true
                write(2, 2, 1) = 0
                slotOf(0, 0) = 2
                slotOf(0, 1) = 1
                isMarked(0, 0) = false
                marked() = 1
                """);
        Script.run("promise 4: the record is dropped and the slot is taken of one and the same that ended", """
                setSpace(2) = 12
                begin() = 0
                begin() = 1
                begin() = 2
                write(0, 0, 1) = 0
                write(1, 1, 1) = 0
                commit(0) = 1
                write(2, 2, 1) = 0
                dropped() = 1
                slotOf(0, 0) = 2
                """);
    }
}
