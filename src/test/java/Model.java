import java.util.ArrayDeque;
import java.util.ArrayList;
import java.util.Collections;
import java.util.HashMap;
import java.util.HashSet;
import java.util.List;
import java.util.Map;
import java.util.NoSuchElementException;
import java.util.Set;
import java.util.TreeMap;

/**
 * The document written a second time, for ModelTest, in other ways than the class: records are a
 * queue of their own, locks and committed versions are kept, and all is put back if a call throws.
 */
final class Model {
    private enum End { ACTIVE, COMMITTED, UNDONE }

    private static final class Change {
        int transaction;
        int row;
        int ahead;
        boolean isVoid;
    }

    int space = 12;
    int moment = 0;
    int marked = 0;
    int dropped = 0;
    final int[] now = new int[12];
    final int[][] slots = {{-1, -1}, {-1, -1}, {-1, -1}};
    final boolean[][] marks = new boolean[3][2];
    final List<Integer> beganAt = new ArrayList<Integer>();
    final List<End> ends = new ArrayList<End>();
    final Map<Integer, Integer> commitMoments = new HashMap<Integer, Integer>();
    final List<Change> changes = new ArrayList<Change>();
    final ArrayDeque<Change> records = new ArrayDeque<Change>();
    final Set<Change> lost = new HashSet<Change>();
    final List<TreeMap<Integer, Integer>> versions = new ArrayList<TreeMap<Integer, Integer>>();

    Model() {
        for (int row = 0; row < 12; row++) {
            versions.add(new TreeMap<Integer, Integer>(Map.of(0, 0)));
        }
    }

    int setSpace(int size) {
        if (!(1 <= size && size <= 30)) {
            throw new IllegalArgumentException();
        }
        if (records.size() > size) {
            throw new IllegalStateException();
        }
        int before = space;
        space = size;
        return before;
    }

    int begin() {
        if (ends.size() == 60) {
            throw new IllegalStateException();
        }
        ends.add(End.ACTIVE);
        beganAt.add(moment);
        return ends.size() - 1;
    }

    int write(int transaction, int row, int value) {
        needTransaction(transaction);
        needRow(row);
        if (Math.abs((long) value) > 1000000) {
            throw new IllegalArgumentException();
        }
        needActive(transaction);
        int lock = lockOf(row);
        if (lock != -1 && lock != transaction) {
            throw new IllegalStateException();
        }
        int block = row / 4;
        int markedBefore = marked;
        boolean[] marksBefore = marks[block].clone();
        clean(block);
        int slot = slotFor(transaction, block);
        boolean full = records.size() == space;
        if (slot == -1 || full && ends.get(records.peekFirst().transaction) == End.ACTIVE) {
            marked = markedBefore;
            marks[block] = marksBefore;
            throw new IllegalStateException();
        }
        slots[block][slot] = transaction;
        marks[block][slot] = false;
        if (full) {
            lost.add(records.removeFirst());
            dropped++;
        }
        Change change = new Change();
        change.transaction = transaction;
        change.row = row;
        change.ahead = now[row];
        changes.add(change);
        records.addLast(change);
        now[row] = value;
        return change.ahead;
    }

    private int slotFor(int transaction, int block) {
        for (int slot = 0; slot < 2; slot++) {
            if (slots[block][slot] == transaction) {
                return slot;
            }
        }
        for (int slot = 0; slot < 2; slot++) {
            if (slots[block][slot] == -1 || marks[block][slot]) {
                return slot;
            }
        }
        return -1;
    }

    private void clean(int block) {
        for (int slot = 0; slot < 2; slot++) {
            int holder = slots[block][slot];
            if (holder != -1 && ends.get(holder) != End.ACTIVE && !marks[block][slot]) {
                marks[block][slot] = true;
                marked++;
            }
        }
    }

    int read(int transaction, int row) {
        needTransaction(transaction);
        needRow(row);
        needActive(transaction);
        return rebuild(row, beganAt.get(transaction), transaction);
    }

    int readAt(int asOf, int row) {
        needRow(row);
        needMoment(asOf);
        return rebuild(row, asOf, -1);
    }

    private int rebuild(int row, int asOf, int reader) {
        int value = now[row];
        List<Change> backwards = new ArrayList<Change>(changes);
        Collections.reverse(backwards);
        for (Change change : backwards) {
            if (change.row != row || change.isVoid) {
                continue;
            }
            Integer committed = commitMoments.get(change.transaction);
            if (change.transaction == reader || committed != null && committed <= asOf) {
                break;
            }
            if (lost.contains(change)) {
                throw new NoSuchElementException();
            }
            value = change.ahead;
        }
        clean(row / 4);
        return value;
    }

    int save(int transaction) {
        needTransaction(transaction);
        needActive(transaction);
        return standing(transaction).size();
    }

    int undoTo(int transaction, int keep) {
        needTransaction(transaction);
        needActive(transaction);
        List<Change> standing = standing(transaction);
        if (keep < 0 || keep > standing.size()) {
            throw new IllegalArgumentException();
        }
        int undone = 0;
        while (standing.size() > keep) {
            Change latest = standing.remove(standing.size() - 1);
            now[latest.row] = latest.ahead;
            latest.isVoid = true;
            undone++;
        }
        return undone;
    }

    int undo(int transaction) {
        needTransaction(transaction);
        needActive(transaction);
        int undone = undoTo(transaction, 0);
        ends.set(transaction, End.UNDONE);
        return undone;
    }

    int commit(int transaction) {
        needTransaction(transaction);
        needActive(transaction);
        moment++;
        ends.set(transaction, End.COMMITTED);
        commitMoments.put(transaction, moment);
        for (Change change : standing(transaction)) {
            versions.get(change.row).put(moment, now[change.row]);
        }
        return moment;
    }

    private List<Change> standing(int transaction) {
        List<Change> standing = new ArrayList<Change>();
        for (Change change : changes) {
            if (change.transaction == transaction && !change.isVoid) {
                standing.add(change);
            }
        }
        return standing;
    }

    private int versionAt(int asOf, int row) {
        return versions.get(row).floorEntry(asOf).getValue();
    }

    private int lockOf(int row) {
        int last = -1;
        for (Change change : changes) {
            if (change.row == row && !change.isVoid) {
                last = change.transaction;
            }
        }
        return last != -1 && ends.get(last) == End.ACTIVE ? last : -1;
    }

    boolean isActive(int transaction) {
        return transaction < ends.size() && ends.get(transaction) == End.ACTIVE;
    }

    private void needTransaction(int transaction) {
        if (!(0 <= transaction && transaction < ends.size())) {
            throw new IndexOutOfBoundsException();
        }
    }

    private void needRow(int row) {
        if (!(0 <= row && row < 12)) {
            throw new IndexOutOfBoundsException();
        }
    }

    private void needActive(int transaction) {
        if (ends.get(transaction) != End.ACTIVE) {
            throw new IllegalStateException();
        }
    }

    private void needMoment(int asOf) {
        if (!(0 <= asOf && asOf <= moment)) {
            throw new IllegalArgumentException();
        }
    }

    private int askedVersion(int asOf, int row) {
        needRow(row);
        needMoment(asOf);
        return versionAt(asOf, row);
    }

    private int askedNow(int row) {
        needRow(row);
        return now[row];
    }

    private int askedLock(int row) {
        needRow(row);
        return lockOf(row);
    }

    private int askedSlot(int block, int slot) {
        needSlot(block, slot);
        return slots[block][slot];
    }

    private boolean askedMark(int block, int slot) {
        needSlot(block, slot);
        return marks[block][slot];
    }

    private void needSlot(int block, int slot) {
        if (!(0 <= block && block < 3 && 0 <= slot && slot < 2)) {
            throw new IndexOutOfBoundsException();
        }
    }

    /** What the call of that name answers, as Script.answer tells it of the class. */
    String answer(String call, int[] a) {
        try {
            return switch (call) {
                case "isMarked" -> String.valueOf(askedMark(a[0], a[1]));
                default -> String.valueOf(number(call, a));
            };
        } catch (IllegalArgumentException | IllegalStateException | IndexOutOfBoundsException
                | NoSuchElementException e) {
            return "throws " + e.getClass().getSimpleName();
        }
    }

    private int number(String call, int[] a) {
        return switch (call) {
            case "setSpace" -> setSpace(a[0]);
            case "begin" -> begin();
            case "write" -> write(a[0], a[1], a[2]);
            case "read" -> read(a[0], a[1]);
            case "readAt" -> readAt(a[0], a[1]);
            case "save" -> save(a[0]);
            case "undoTo" -> undoTo(a[0], a[1]);
            case "undo" -> undo(a[0]);
            case "commit" -> commit(a[0]);
            case "moment" -> moment;
            case "transactions" -> ends.size();
            case "now" -> askedNow(a[0]);
            case "versionAt" -> askedVersion(a[0], a[1]);
            case "lockOf" -> askedLock(a[0]);
            case "slotOf" -> askedSlot(a[0], a[1]);
            case "marked" -> marked;
            case "records" -> records.size();
            case "dropped" -> dropped;
            default -> throw new UnsupportedOperationException(call);
        };
    }
}
