/**
 * "A call that throws an exception changes nothing", call by call: Script asks for all that there is
 * ahead of each call that throws and behind it.
 */
public final class RefusedTest {
    /** Active are 1, 2 and 3; 0 has ended, and block 0 has not heard of it; 5 records fill the space. */
    private static final String BUSY = """
            setSpace(5) = 12
            begin() = 0
            begin() = 1
            write(0, 0, 5) = 0
            write(0, 0, 6) = 5
            commit(0) = 1
            begin() = 2
            write(2, 4, 7) = 0
            write(1, 5, 8) = 0
            undoTo(1, 0) = 1
            write(1, 5, 9) = 0
            begin() = 3
            """;

    public static void main(String[] args) {
        spaceAndBeginning();
        writes();
        reads();
        ends();
        asking();
        Script.end("RefusedTest");
    }

    private static void spaceAndBeginning() {
        Script.run("promise 2", BUSY + """
                setSpace(0) throws IllegalArgumentException
                setSpace(31) throws IllegalArgumentException
                setSpace(4) throws IllegalStateException
                setSpace(5) = 5
                """);
        Script.run("promise 3", Script.times(60, "begin() = #") + """
                begin() throws IllegalStateException
                """);
    }

    private static void writes() {
        Script.run("promise 4: wrong arguments", BUSY + """
                write(4, 0, 0) throws IndexOutOfBoundsException
                write(-1, 0, 0) throws IndexOutOfBoundsException
                write(1, 12, 0) throws IndexOutOfBoundsException
                write(1, -1, 0) throws IndexOutOfBoundsException
                write(1, 0, 1000001) throws IllegalArgumentException
                write(1, 0, -1000001) throws IllegalArgumentException
                marked() = 0
                """);
        Script.run("promise 4: not active", BUSY + """
                write(0, 0, 1) throws IllegalStateException
                write(0, 8, 1) throws IllegalStateException
                isMarked(0, 0) = false
                marked() = 0
                dropped() = 0
                """);
        Script.run("promise 4: locked by another one", BUSY + """
                write(1, 4, 1) throws IllegalStateException
                write(2, 5, 1) throws IllegalStateException
                write(3, 5, 1) throws IllegalStateException
                dropped() = 0
                """);
        Script.run("promise 4: locked by another one, and the block has not heard of one that ended", """
                begin() = 0
                begin() = 1
                begin() = 2
                write(0, 0, 1) = 0
                write(1, 1, 1) = 0
                commit(0) = 1
                write(2, 1, 1) throws IllegalStateException
                isMarked(0, 0) = false
                slotOf(0, 0) = 0
                marked() = 0
                write(1, 2, 1) = 0
                isMarked(0, 0) = true
                marked() = 1
                """);
        Script.run("promise 4: no slot", BUSY + """
                write(3, 6, 1) throws IllegalStateException
                write(3, 7, 1) throws IllegalStateException
                save(3) = 0
                dropped() = 0
                """);
        Script.run("promise 4: no space, and the block has not heard of one that ended", """
                setSpace(2) = 12
                begin() = 0
                begin() = 1
                begin() = 2
                write(0, 0, 1) = 0
                write(1, 1, 1) = 0
                commit(1) = 1
                write(2, 2, 1) throws IllegalStateException
                write(0, 3, 1) throws IllegalStateException
                isMarked(0, 1) = false
                slotOf(0, 1) = 1
                marked() = 0
                dropped() = 0
                """);
        Script.run("promise 4: no space, and the block is empty", """
                setSpace(1) = 12
                begin() = 0
                begin() = 1
                write(0, 0, 1) = 0
                write(1, 4, 1) throws IllegalStateException
                slotOf(1, 0) = -1
                lockOf(4) = -1
                save(1) = 0
                """);
    }

    private static void reads() {
        Script.run("promise 5: wrong arguments, not active", BUSY + """
                read(4, 0) throws IndexOutOfBoundsException
                read(-1, 0) throws IndexOutOfBoundsException
                read(1, 12) throws IndexOutOfBoundsException
                read(1, -1) throws IndexOutOfBoundsException
                read(0, 0) throws IllegalStateException
                isMarked(0, 0) = false
                marked() = 0
                """);
        Script.run("promise 6: wrong arguments", BUSY + """
                readAt(0, 12) throws IndexOutOfBoundsException
                readAt(0, -1) throws IndexOutOfBoundsException
                readAt(2, 0) throws IllegalArgumentException
                readAt(-1, 0) throws IllegalArgumentException
                isMarked(0, 0) = false
                marked() = 0
                """);
        Script.run("promise 5: too late: the block is not cleaned, but by the next read in it", """
                setSpace(1) = 12
                begin() = 0
                begin() = 1
                write(1, 0, 5) = 0
                commit(1) = 1
                begin() = 2
                write(2, 4, 6) = 0
                read(0, 0) throws NoSuchElementException
                isMarked(0, 0) = false
                marked() = 0
                read(0, 1) = 0
                isMarked(0, 0) = true
                marked() = 1
                read(0, 0) throws NoSuchElementException
                """);
        Script.run("promise 6: too late: the block is not cleaned, but by the next read in it", """
                setSpace(1) = 12
                begin() = 0
                write(0, 0, 5) = 0
                commit(0) = 1
                begin() = 1
                write(1, 4, 6) = 0
                readAt(0, 0) throws NoSuchElementException
                isMarked(0, 0) = false
                marked() = 0
                readAt(1, 0) = 5
                isMarked(0, 0) = true
                marked() = 1
                readAt(0, 0) throws NoSuchElementException
                """);
    }

    private static void ends() {
        Script.run("promise 7", BUSY + """
                save(4) throws IndexOutOfBoundsException
                save(-1) throws IndexOutOfBoundsException
                save(0) throws IllegalStateException
                """);
        Script.run("promise 8", BUSY + """
                undoTo(4, 0) throws IndexOutOfBoundsException
                undoTo(-1, 0) throws IndexOutOfBoundsException
                undoTo(0, 0) throws IllegalStateException
                undoTo(1, 2) throws IllegalArgumentException
                undoTo(1, -1) throws IllegalArgumentException
                undoTo(3, 1) throws IllegalArgumentException
                now(0) = 6
                now(5) = 9
                """);
        Script.run("promise 9", BUSY + """
                undo(4) throws IndexOutOfBoundsException
                undo(-1) throws IndexOutOfBoundsException
                undo(0) throws IllegalStateException
                now(0) = 6
                """);
        Script.run("promise 10", BUSY + """
                commit(4) throws IndexOutOfBoundsException
                commit(-1) throws IndexOutOfBoundsException
                commit(0) throws IllegalStateException
                moment() = 1
                """);
    }

    private static void asking() {
        Script.run("promises 13 to 17", BUSY + """
                now(12) throws IndexOutOfBoundsException
                now(-1) throws IndexOutOfBoundsException
                versionAt(0, 12) throws IndexOutOfBoundsException
                versionAt(2, 0) throws IllegalArgumentException
                versionAt(-1, 0) throws IllegalArgumentException
                lockOf(12) throws IndexOutOfBoundsException
                slotOf(3, 0) throws IndexOutOfBoundsException
                slotOf(0, 2) throws IndexOutOfBoundsException
                isMarked(-1, 0) throws IndexOutOfBoundsException
                isMarked(0, -1) throws IndexOutOfBoundsException
                """);
    }
}
