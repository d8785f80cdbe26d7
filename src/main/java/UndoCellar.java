import java.util.ArrayList;
import java.util.NoSuchElementException;

/**
 * A store of rows with undo: blocks with slots of those who write in them, records by which changes
 * are undone, reads as of a moment that are rebuilt from them, savepoints, commits that blocks hear
 * of only when somebody comes by, and undo space that is used again, so that some reads come too
 * late.
 */
public final class UndoCellar {
    /** None. */
    public static final int NONE = -1;

    private static final int ROWS = 12;
    private static final int ROWS_IN_BLOCK = 4;
    private static final int BLOCKS = 3;
    private static final int SLOTS_IN_BLOCK = 2;
    private static final int MOST_TRANSACTIONS = 60;
    private static final int FIRST_SPACE = 12;
    private static final int MOST_SPACE = 30;
    private static final int MOST_VALUE = 1000000;
    // No object is used for more calls than that, and a call makes one change at most.
    private static final int MOST_CHANGES = 512;

    private final Block[] blocks = new Block[BLOCKS];
    private final Row[] rows = new Row[ROWS];
    private final ArrayList<Transaction> begun = new ArrayList<Transaction>();
    private final ArrayList<Change> changes = new ArrayList<Change>();
    private int space = FIRST_SPACE;
    private int momentOfNow = 0;
    private int markedSoFar = 0;
    // Each change takes a record and the oldest record goes first: so it is always the first so
    // many changes whose records were dropped, and all others have theirs.
    private int droppedSoFar = 0;

    public UndoCellar() {
        for (int block = 0; block < blocks.length; block++) {
            blocks[block] = new Block();
        }
        for (int row = 0; row < rows.length; row++) {
            rows[row] = new Row(blocks[row / ROWS_IN_BLOCK]);
        }
    }

    /** Sets the size of the undo space; returns the size before. */
    public int setSpace(int size) throws IllegalArgumentException, IllegalStateException {
        if (size < 1 || size > MOST_SPACE) {
            throw new IllegalArgumentException("the size is out of range");
        }
        if (recordsThere() > size) {
            throw new IllegalStateException("more records than that are there");
        }
        int before = space;
        space = size;
        return before;
    }

    // ---- transactions

    /** Begins a transaction; returns its number. */
    public int begin() throws IllegalStateException {
        if (begun.size() >= MOST_TRANSACTIONS) {
            throw new IllegalStateException("there were as many transactions as there can be");
        }
        Transaction transaction = new Transaction(begun.size(), momentOfNow);
        begun.add(transaction);
        return transaction.number;
    }

    /** Writes a row; returns the value before. */
    public int write(int transaction, int row, int value)
            throws IndexOutOfBoundsException, IllegalArgumentException, IllegalStateException {
        Transaction writer = transactionNumbered(transaction);
        Row target = rowNumbered(row);
        if (value < -MOST_VALUE || value > MOST_VALUE) {
            throw new IllegalArgumentException("the value is out of range");
        }
        refuseIfEnded(writer);
        refuseIfLockedByAnother(target, writer);
        refuseIfNoSpace();
        Slot slot = target.block.slotFor(writer);
        if (slot == null) {
            throw new IllegalStateException("no slot can be had");
        }
        // From here on nothing throws: a call that throws must leave even the marks as they were.
        clean(target.block);
        slot.give(writer);
        if (isSpaceFull()) {
            droppedSoFar++;
        }
        Change change = new Change(writer, target, target.value);
        changes.add(change);
        change.make(value);
        return change.ahead;
    }

    /** Reads a row for a transaction; returns the value. */
    public int read(int transaction, int row)
            throws IndexOutOfBoundsException, IllegalStateException, NoSuchElementException {
        Transaction reader = transactionNumbered(transaction);
        Row source = rowNumbered(row);
        refuseIfEnded(reader);
        return readFromRecords(source, reader.beganAt, reader);
    }

    /** Reads a row as of a moment; returns the value. */
    public int readAt(int moment, int row)
            throws IndexOutOfBoundsException, IllegalArgumentException, NoSuchElementException {
        Row source = rowNumbered(row);
        refuseIfNotYet(moment);
        return readFromRecords(source, moment, null);
    }

    /** Makes a savepoint; returns how many of the transaction's changes are not void. */
    public int save(int transaction) throws IndexOutOfBoundsException, IllegalStateException {
        Transaction saver = transactionNumbered(transaction);
        refuseIfEnded(saver);
        return saver.standing;
    }

    /** Undoes the latest changes of a transaction; returns how many are undone. */
    public int undoTo(int transaction, int keep)
            throws IndexOutOfBoundsException, IllegalStateException, IllegalArgumentException {
        Transaction undoer = transactionNumbered(transaction);
        refuseIfEnded(undoer);
        if (keep < 0 || keep > undoer.standing) {
            throw new IllegalArgumentException("so many changes can't be kept");
        }
        return undoDownTo(undoer, keep);
    }

    /** Undoes a transaction as a whole; returns how many changes are undone. */
    public int undo(int transaction) throws IndexOutOfBoundsException, IllegalStateException {
        Transaction undoer = transactionNumbered(transaction);
        refuseIfEnded(undoer);
        int undone = undoDownTo(undoer, 0);
        undoer.active = false;
        return undone;
    }

    /** Commits a transaction; returns its moment. */
    public int commit(int transaction) throws IndexOutOfBoundsException, IllegalStateException {
        Transaction committer = transactionNumbered(transaction);
        refuseIfEnded(committer);
        momentOfNow++;
        committer.committedAt = momentOfNow;
        committer.active = false;
        return momentOfNow;
    }

    // ---- what there is; this cleans nothing

    /** Returns the moment of now. */
    public int moment() {
        return momentOfNow;
    }

    /** Returns how many transactions have begun. */
    public int transactions() {
        return begun.size();
    }

    /** Returns the value of a row as it is now, committed or not. */
    public int now(int row) throws IndexOutOfBoundsException {
        return rowNumbered(row).value;
    }

    /** Returns the value of a row as of a moment; it never comes too late. */
    public int versionAt(int moment, int row)
            throws IndexOutOfBoundsException, IllegalArgumentException {
        Row source = rowNumbered(row);
        refuseIfNotYet(moment);
        return valueAheadOf(oldestUnseen(source, moment, null), source);
    }

    /** Returns by which transaction a row is locked; NONE if it is not locked. */
    public int lockOf(int row) throws IndexOutOfBoundsException {
        Transaction locker = lockerOf(rowNumbered(row));
        return locker == null ? NONE : locker.number;
    }

    /** Returns the transaction that has a slot, active or not; NONE if the slot is empty. */
    public int slotOf(int block, int slot) throws IndexOutOfBoundsException {
        Transaction holder = slotNumbered(block, slot).holder;
        return holder == null ? NONE : holder.number;
    }

    /** Tells whether a slot is marked as ended. */
    public boolean isMarked(int block, int slot) throws IndexOutOfBoundsException {
        return slotNumbered(block, slot).marked;
    }

    /** Returns how many slots were marked so far, in all. */
    public int marked() {
        return markedSoFar;
    }

    /** Returns how many records there are. */
    public int records() {
        return recordsThere();
    }

    /** Returns how many records were dropped so far. */
    public int dropped() {
        return droppedSoFar;
    }

    // ---- what the calls' arguments name

    private Transaction transactionNumbered(int number) {
        if (number < 0 || number >= begun.size()) {
            throw new IndexOutOfBoundsException("there is no such transaction");
        }
        return begun.get(number);
    }

    private Row rowNumbered(int number) {
        if (number < 0 || number >= rows.length) {
            throw new IndexOutOfBoundsException("there is no such row");
        }
        return rows[number];
    }

    private Slot slotNumbered(int block, int slot) {
        if (block < 0 || block >= blocks.length) {
            throw new IndexOutOfBoundsException("there is no such block");
        }
        Slot[] slots = blocks[block].slots;
        if (slot < 0 || slot >= slots.length) {
            throw new IndexOutOfBoundsException("there is no such slot");
        }
        return slots[slot];
    }

    // ---- what calls are refused for

    private void refuseIfEnded(Transaction transaction) {
        if (!transaction.active) {
            throw new IllegalStateException("the transaction is not active");
        }
    }

    private void refuseIfNotYet(int moment) {
        if (moment < 0 || moment > momentOfNow) {
            throw new IllegalArgumentException("the moment is out of range");
        }
    }

    private void refuseIfLockedByAnother(Row row, Transaction writer) {
        Transaction locker = lockerOf(row);
        if (locker != null && locker != writer) {
            throw new IllegalStateException("the row is locked by another transaction");
        }
    }

    private void refuseIfNoSpace() {
        if (changes.size() >= MOST_CHANGES) {
            throw new IllegalStateException("the object was used for more calls than it is for");
        }
        if (isSpaceFull() && changes.get(droppedSoFar).transaction.active) {
            throw new IllegalStateException("there is no space");
        }
    }

    // ---- the undo space

    private int recordsThere() {
        return changes.size() - droppedSoFar;
    }

    private boolean isSpaceFull() {
        return droppedSoFar < changes.size() && recordsThere() >= space;
    }

    /** Undoes the latest changes of a transaction until only so many stand; returns how many. */
    private int undoDownTo(Transaction transaction, int keep) {
        int undone = 0;
        for (int i = changes.size() - 1; i >= 0 && transaction.standing > keep; i--) {
            Change change = changes.get(i);
            if (change.transaction == transaction && !change.isVoid) {
                change.takeBack();
                undone++;
            }
        }
        return undone;
    }

    // ---- rows and their changes

    private Transaction lockerOf(Row row) {
        for (int i = changes.size() - 1; i >= 0; i--) {
            Change change = changes.get(i);
            if (change.stands(row)) {
                return change.transaction.active ? change.transaction : null;
            }
        }
        return null;
    }

    private int readFromRecords(Row row, int moment, Transaction reader) {
        int oldest = oldestUnseen(row, moment, reader);
        if (oldest < droppedSoFar) {
            throw new NoSuchElementException("the read comes too late");
        }
        // Cleaning changes no value, so it may wait until the read can't throw any more.
        clean(row.block);
        return valueAheadOf(oldest, row);
    }

    /**
     * Returns the place of the oldest change that a read has to take back, going from the latest
     * one back to the first that is seen; the place behind all changes if it takes back none.
     */
    private int oldestUnseen(Row row, int moment, Transaction reader) {
        int oldest = changes.size();
        for (int i = changes.size() - 1; i >= 0; i--) {
            Change change = changes.get(i);
            if (change.stands(row)) {
                if (change.isSeen(moment, reader)) {
                    return oldest;
                }
                oldest = i;
            }
        }
        return oldest;
    }

    private int valueAheadOf(int place, Row row) {
        if (place < 0 || place >= changes.size()) {
            return row.value;
        }
        return changes.get(place).ahead;
    }

    private void clean(Block block) {
        markedSoFar += block.markEnded();
    }

    private static final class Transaction {
        private final int number;
        private final int beganAt;
        private boolean active = true;
        private int committedAt = NONE;
        // How many of its changes are not void.
        private int standing = 0;

        private Transaction(int number, int beganAt) {
            this.number = number;
            this.beganAt = beganAt;
        }

        private boolean isCommittedBy(int moment) {
            return committedAt != NONE && committedAt <= moment;
        }
    }

    private static final class Row {
        private final Block block;
        private int value = 0;

        private Row(Block block) {
            this.block = block;
        }
    }

    private static final class Change {
        private final Transaction transaction;
        private final Row row;
        private final int ahead;
        private boolean isVoid = false;

        private Change(Transaction transaction, Row row, int ahead) {
            this.transaction = transaction;
            this.row = row;
            this.ahead = ahead;
        }

        /** Tells whether this is a change of that row that is not void. */
        private boolean stands(Row of) {
            return row == of && !isVoid;
        }

        private boolean isSeen(int moment, Transaction reader) {
            return transaction == reader || transaction.isCommittedBy(moment);
        }

        private void make(int value) {
            row.value = value;
            transaction.standing++;
        }

        private void takeBack() {
            row.value = ahead;
            isVoid = true;
            transaction.standing--;
        }
    }

    private static final class Slot {
        private Transaction holder = null;
        private boolean marked = false;

        private boolean isEnded() {
            return holder != null && !holder.active;
        }

        private void give(Transaction transaction) {
            holder = transaction;
            marked = false;
        }
    }

    private static final class Block {
        private final Slot[] slots = new Slot[SLOTS_IN_BLOCK];

        private Block() {
            for (int slot = 0; slot < slots.length; slot++) {
                slots[slot] = new Slot();
            }
        }

        /** Returns the slot that a writer has, or gets behind cleaning; null if there is none. */
        private Slot slotFor(Transaction writer) {
            for (Slot slot : slots) {
                if (slot.holder == writer) {
                    return slot;
                }
            }
            for (Slot slot : slots) {
                if (slot.holder == null || slot.isEnded()) {
                    return slot;
                }
            }
            return null;
        }

        /** Marks the slots of ended transactions; returns how many were not marked before. */
        private int markEnded() {
            int newlyMarked = 0;
            for (Slot slot : slots) {
                if (slot.isEnded() && !slot.marked) {
                    slot.marked = true;
                    newlyMarked++;
                }
            }
            return newlyMarked;
        }
    }
}
