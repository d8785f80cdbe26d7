/** Promises 16, 17 and 18: slotOf, isMarked, marked; and the paragraph on slots. */
public final class SlotsTest {
    public static void main(String[] args) {
        takingSlots();
        keepingSlots();
        marks();
        howManyWereMarked();
        blocks();
        wrongArguments();
        Script.end("SlotsTest");
    }

    private static void takingSlots() {
        Script.run("promise 16: the lowest one that is empty, then the other", """
                begin() = 0
                begin() = 1
                write(1, 0, 1) = 0
                slotOf(0, 0) = 1
                slotOf(0, 1) = -1
                write(0, 2, 1) = 0
                slotOf(0, 0) = 1
                slotOf(0, 1) = 0
                """);
        Script.run("promise 16: that which it has, though the other one is empty", """
                begin() = 0
                write(0, 0, 1) = 0
                write(0, 1, 1) = 0
                write(0, 0, 2) = 1
                slotOf(0, 0) = 0
                slotOf(0, 1) = -1
                """);
        Script.run("promise 16: that which it has, though a lower one ended", """
                begin() = 0
                begin() = 1
                write(1, 0, 1) = 0
                write(0, 2, 1) = 0
                commit(1) = 1
                write(0, 3, 1) = 0
                slotOf(0, 0) = 1
                slotOf(0, 1) = 0
                isMarked(0, 0) = true
                """);
        Script.run("promise 16: of two ended ones the lowest", """
                begin() = 0
                begin() = 1
                begin() = 2
                write(0, 0, 1) = 0
                write(1, 1, 1) = 0
                commit(1) = 1
                commit(0) = 2
                write(2, 2, 1) = 0
                slotOf(0, 0) = 2
                slotOf(0, 1) = 1
                isMarked(0, 0) = false
                isMarked(0, 1) = true
                marked() = 2
                """);
        Script.run("promise 16: the upper one if that alone ended", """
                begin() = 0
                begin() = 1
                begin() = 2
                write(0, 0, 1) = 0
                write(1, 1, 1) = 0
                undo(1) = 1
                write(2, 2, 1) = 0
                slotOf(0, 0) = 0
                slotOf(0, 1) = 2
                isMarked(0, 1) = false
                """);
        Script.run("promise 16: an ended one below an empty one is the lowest", """
                begin() = 0
                write(0, 0, 1) = 0
                commit(0) = 1
                begin() = 1
                write(1, 0, 2) = 1
                slotOf(0, 0) = 1
                slotOf(0, 1) = -1
                marked() = 1
                """);
    }

    private static void keepingSlots() {
        Script.run("promise 16: it keeps the slot when it is committed, and when it is marked", """
                begin() = 0
                write(0, 0, 1) = 0
                commit(0) = 1
                slotOf(0, 0) = 0
                readAt(0, 0) = 0
                slotOf(0, 0) = 0
                """);
        Script.run("promise 16: it keeps the slot when it is undone, and when it is marked", """
                begin() = 0
                write(0, 0, 1) = 0
                undo(0) = 1
                slotOf(0, 0) = 0
                readAt(0, 0) = 0
                slotOf(0, 0) = 0
                """);
        Script.run("promise 16: until another one takes it, in this block alone", """
                begin() = 0
                write(0, 0, 1) = 0
                write(0, 4, 1) = 0
                commit(0) = 1
                begin() = 1
                write(1, 1, 1) = 0
                slotOf(0, 0) = 1
                slotOf(1, 0) = 0
                """);
    }

    private static void marks() {
        Script.run("promise 17: the end of a transaction itself marks nothing", """
                begin() = 0
                begin() = 1
                write(0, 0, 1) = 0
                write(1, 1, 1) = 0
                commit(0) = 1
                isMarked(0, 0) = false
                undo(1) = 1
                isMarked(0, 0) = false
                isMarked(0, 1) = false
                marked() = 0
                """);
        Script.run("promise 17: an active one's slot is not marked", """
                begin() = 0
                write(0, 0, 1) = 0
                readAt(0, 0) = 0
                read(0, 0) = 1
                write(0, 0, 2) = 1
                isMarked(0, 0) = false
                marked() = 0
                """);
        Script.run("promise 17: a write cleans its block first, and no other", """
                begin() = 0
                begin() = 1
                write(0, 0, 1) = 0
                write(0, 4, 1) = 0
                write(1, 1, 1) = 0
                commit(0) = 1
                write(1, 2, 2) = 0
                isMarked(0, 0) = true
                isMarked(1, 0) = false
                slotOf(0, 0) = 0
                slotOf(0, 1) = 1
                marked() = 1
                """);
        Script.run("promise 17: a slot that is taken is not marked any more", """
                begin() = 0
                write(0, 0, 1) = 0
                commit(0) = 1
                readAt(1, 0) = 1
                isMarked(0, 0) = true
                begin() = 1
                write(1, 0, 2) = 1
                isMarked(0, 0) = false
                slotOf(0, 0) = 1
                """);
        Script.run("promise 17: beginning, saving, setting space and committing clean nothing", """
                begin() = 0
                begin() = 1
                write(0, 0, 1) = 0
                write(1, 1, 1) = 0
                commit(0) = 1
                begin() = 2
                save(1) = 1
                setSpace(20) = 12
                commit(1) = 2
                isMarked(0, 0) = false
                marked() = 0
                """);
    }

    private static void howManyWereMarked() {
        Script.run("promise 18: a slot that is marked is not marked again", """
                begin() = 0
                begin() = 1
                write(0, 0, 1) = 0
                commit(0) = 1
                read(1, 1) = 0
                marked() = 1
                read(1, 1) = 0
                readAt(1, 1) = 0
                marked() = 1
                """);
        Script.run("promise 18: both slots of a block at one time", """
                begin() = 0
                begin() = 1
                write(0, 0, 1) = 0
                write(1, 1, 1) = 0
                commit(0) = 1
                undo(1) = 1
                readAt(0, 2) = 0
                isMarked(0, 0) = true
                isMarked(0, 1) = true
                marked() = 2
                """);
        Script.run("promise 18: in all: also one that was taken since, and marked again", """
                begin() = 0
                write(0, 0, 1) = 0
                commit(0) = 1
                begin() = 1
                write(1, 0, 2) = 1
                isMarked(0, 0) = false
                marked() = 1
                commit(1) = 2
                marked() = 1
                readAt(2, 0) = 2
                isMarked(0, 0) = true
                marked() = 2
                """);
        Script.run("promise 18: over all blocks", """
                begin() = 0
                write(0, 0, 1) = 0
                write(0, 4, 1) = 0
                write(0, 8, 1) = 0
                undo(0) = 3
                readAt(0, 0) = 0
                marked() = 1
                readAt(0, 4) = 0
                marked() = 2
                readAt(0, 8) = 0
                marked() = 3
                """);
    }

    private static void blocks() {
        Script.run("promise 16: the row r is in the block r / 4, rounded down", """
                begin() = 0
                write(0, 3, 1) = 0
                slotOf(0, 0) = 0
                slotOf(1, 0) = -1
                begin() = 1
                write(1, 4, 1) = 0
                slotOf(1, 0) = 1
                begin() = 2
                write(2, 7, 1) = 0
                slotOf(1, 1) = 2
                slotOf(2, 0) = -1
                begin() = 3
                write(3, 8, 1) = 0
                slotOf(2, 0) = 3
                begin() = 4
                write(4, 11, 1) = 0
                slotOf(2, 1) = 4
                slotOf(0, 1) = -1
                begin() = 5
                write(5, 0, 1) = 0
                slotOf(0, 1) = 5
                """);
        Script.run("promise 16: a slot in each block for one and the same", """
                begin() = 0
                begin() = 1
                write(0, 0, 1) = 0
                write(1, 11, 1) = 0
                write(0, 8, 1) = 0
                write(0, 5, 1) = 0
                slotOf(0, 0) = 0
                slotOf(1, 0) = 0
                slotOf(2, 0) = 1
                slotOf(2, 1) = 0
                """);
    }

    private static void wrongArguments() {
        Script.run("promises 16 and 17: block 0 to 2, slot 0 or 1, their ends", """
                slotOf(0, 0) = -1
                slotOf(2, 1) = -1
                isMarked(0, 0) = false
                isMarked(2, 1) = false
                """);
        for (String call : new String[] {"slotOf", "isMarked"}) {
            Script.run("promises 16 and 17: no such block", """
                    CALL(-1, 0) throws IndexOutOfBoundsException
                    CALL(3, 0) throws IndexOutOfBoundsException
                    CALL(2147483647, 0) throws IndexOutOfBoundsException
                    CALL(-2147483648, 0) throws IndexOutOfBoundsException
                    """.replace("CALL", call));
            Script.run("promises 16 and 17: no such slot", """
                    CALL(0, -1) throws IndexOutOfBoundsException
                    CALL(0, 2) throws IndexOutOfBoundsException
                    CALL(2, -1) throws IndexOutOfBoundsException
                    CALL(2, 2) throws IndexOutOfBoundsException
                    CALL(2, 2147483647) throws IndexOutOfBoundsException
                    CALL(2, -2147483648) throws IndexOutOfBoundsException
                    """.replace("CALL", call));
            Script.run("promises 16 and 17: neither block nor slot", """
                    CALL(-1, 2) throws IndexOutOfBoundsException
                    CALL(3, -1) throws IndexOutOfBoundsException
                    CALL(1, 2) throws IndexOutOfBoundsException
                    CALL(1, -1) throws IndexOutOfBoundsException
                    """.replace("CALL", call));
        }
    }
}
