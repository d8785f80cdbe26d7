/** Promises 16, 17 and 18: slotOf, isMarked, marked. */
public final class SlotsTest {
    public static void main(String[] args) {
        takingSlots();
        marks();
        blocks();
        wrongArguments();
        Script.end("SlotsTest");
    }

    private static void takingSlots() {
        Script.run("promise 16: the lowest one that is empty, and the same one again", """
                begin() = 0
                begin() = 1
                write(1, 0, 1) = 0
                slotOf(0, 0) = 1
                slotOf(0, 1) = -1
                write(1, 1, 1) = 0
                slotOf(0, 1) = -1
                write(0, 2, 1) = 0
                slotOf(0, 0) = 1
                slotOf(0, 1) = 0
                commit(1) = 1
                write(0, 3, 1) = 0
                slotOf(0, 0) = 1
                slotOf(0, 1) = 0
                """);
        Script.run("promises 4 and 16: no slot while both have active ones; then the one that ended", """
                begin() = 0
                begin() = 1
                begin() = 2
                write(0, 0, 1) = 0
                write(1, 1, 1) = 0
                write(2, 2, 1) throws IllegalStateException
                write(2, 4, 1) = 0
                undo(1) = 1
                write(2, 2, 1) = 0
                slotOf(0, 0) = 0
                slotOf(0, 1) = 2
                isMarked(0, 1) = false
                marked() = 1
                """);
        Script.run("promise 16: of two ended ones the lowest is taken", """
                begin() = 0
                begin() = 1
                begin() = 2
                write(0, 0, 1) = 0
                write(1, 1, 1) = 0
                commit(1) = 1
                commit(0) = 2
                write(2, 2, 1) = 0
                slotOf(0, 0) = 2
                slotOf(0, 1) = 1
                isMarked(0, 0) = false
                isMarked(0, 1) = true
                marked() = 2
                """);
        Script.run("promise 16: an ended one below an empty one is the lowest", """
                begin() = 0
                write(0, 0, 1) = 0
                commit(0) = 1
                begin() = 1
                write(1, 0, 2) = 1
                slotOf(0, 0) = 1
                slotOf(0, 1) = -1
                marked() = 1
                """);
    }

    private static void marks() {
        Script.run("promises 17 and 18: the end of a transaction marks nothing; each slot is marked once", """
                begin() = 0
                begin() = 1
                write(0, 0, 1) = 0
                isMarked(0, 0) = false
                readAt(0, 0) = 0
                isMarked(0, 0) = false
                commit(0) = 1
                isMarked(0, 0) = false
                marked() = 0
                read(1, 1) = 0
                isMarked(0, 0) = true
                isMarked(0, 1) = false
                slotOf(0, 0) = 0
                marked() = 1
                read(1, 1) = 0
                readAt(1, 1) = 0
                marked() = 1
                write(1, 0, 2) = 1
                isMarked(0, 0) = false
                slotOf(0, 0) = 1
                marked() = 1
                commit(1) = 2
                readAt(2, 0) = 2
                isMarked(0, 0) = true
                marked() = 2
                """);
        Script.run("promise 18: both slots at one time", """
                begin() = 0
                begin() = 1
                write(0, 0, 1) = 0
                write(1, 1, 1) = 0
                commit(0) = 1
                undo(1) = 1
                readAt(0, 2) = 0
                isMarked(0, 0) = true
                isMarked(0, 1) = true
                marked() = 2
                """);
        Script.run("promise 17: a transaction that keeps its slot has its write clean the others", """
                begin() = 0
                begin() = 1
                write(0, 0, 1) = 0
                write(1, 1, 1) = 0
                commit(0) = 1
                write(1, 1, 2) = 1
                isMarked(0, 0) = true
                slotOf(0, 0) = 0
                slotOf(0, 1) = 1
                marked() = 1
                """);
    }

    private static void blocks() {
        Script.run("promise 16: four rows a block", """
                begin() = 0
                write(0, 3, 1) = 0
                slotOf(0, 0) = 0
                slotOf(1, 0) = -1
                begin() = 1
                write(1, 4, 1) = 0
                slotOf(1, 0) = 1
                begin() = 2
                write(2, 7, 1) = 0
                slotOf(1, 1) = 2
                slotOf(2, 0) = -1
                begin() = 3
                write(3, 8, 1) = 0
                slotOf(2, 0) = 3
                begin() = 4
                write(4, 11, 1) = 0
                slotOf(2, 1) = 4
                slotOf(0, 1) = -1
                """);
    }

    private static void wrongArguments() {
        for (String call : new String[] {"slotOf", "isMarked"}) {
            Script.run("promises 16 and 17: no such block or slot", """
                    CALL(-1, 0) throws IndexOutOfBoundsException
                    CALL(3, 0) throws IndexOutOfBoundsException
                    CALL(2147483647, 0) throws IndexOutOfBoundsException
                    CALL(-2147483648, 0) throws IndexOutOfBoundsException
                    CALL(0, -1) throws IndexOutOfBoundsException
                    CALL(0, 2) throws IndexOutOfBoundsException
                    CALL(2, 2147483647) throws IndexOutOfBoundsException
                    CALL(2, -2147483648) throws IndexOutOfBoundsException
                    """.replace("CALL", call));
        }
    }
}
