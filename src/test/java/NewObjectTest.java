/** Promise 1, a new object. */
public final class NewObjectTest {
    public static void main(String[] args) {
        Script.run("promise 1: all values are 0 and no row is locked",
                Script.times(12, "now(#) = 0") + Script.times(12, "lockOf(#) = -1")
                + Script.times(12, "versionAt(0, #) = 0") + Script.times(12, "readAt(0, #) = 0"));
        Script.run("promise 1: no transactions, the moment 0, nothing marked or recorded", """
                transactions() = 0
                moment() = 0
                marked() = 0
                records() = 0
                dropped() = 0
                setSpace(12) = 12
                """);
        Script.run("promise 1: all slots are empty", """
                slotOf(0, 0) = -1
                slotOf(0, 1) = -1
                slotOf(1, 0) = -1
                slotOf(1, 1) = -1
                slotOf(2, 0) = -1
                slotOf(2, 1) = -1
                isMarked(0, 0) = false
                isMarked(0, 1) = false
                isMarked(1, 0) = false
                isMarked(1, 1) = false
                isMarked(2, 0) = false
                isMarked(2, 1) = false
                """);
        twoObjectsShareNothing();
        Script.end("NewObjectTest");
    }

    private static void twoObjectsShareNothing() {
        UndoCellar one = new UndoCellar();
        one.begin();
        one.write(0, 0, 5);
        one.commit(0);
        UndoCellar other = new UndoCellar();
        Script.due("promise 1: another object's value", String.valueOf(other.now(0)), "0");
        Script.due("promise 1: another object's transactions", String.valueOf(other.transactions()), "0");
        Script.due("promise 1: another object's moment", String.valueOf(other.moment()), "0");
    }
}
