/** The disk, the taking of slots, APPENDING and THE INDEX (Terms), at their limits. */
public final class SlotTest {
    private static final int MIN = Integer.MIN_VALUE;
    private static final int MAX = Integer.MAX_VALUE;

    public static void main(String[] args) {
        sixteenSlots();
        theLeastFreeSlotIsTaken();
        noRoomWithoutAFreeSlot();
        withoutASegmentASlotIsTaken();
        theFirstBlockBecomesZero();
        aWriteForEachBlock();
        theMarkComesLast();
        theSlotIsFilledToTheLastByte();
        oneByteMoreDoesNotFit();
        theNewSlotIsTheActiveOne();
        nextGrowsByTheRecords();
        entriesAtForty();
        entriesFromTheLatestEntry();
        eachSegmentHasAFirstEntry();
        Check.finish("SlotTest");
    }

    private static void eraseAll(LogBroker x, int count) {
        for (int i = 0; i < count; i++) {
            x.erase(0, 0);
        }
    }

    /** A batch of 6 + 5 * adds + 4 * erases bytes. */
    private static int sendSized(LogBroker x, int log, int adds, int erases) {
        for (int i = 0; i < adds; i++) {
            x.add(0, 0, 0);
        }
        eraseAll(x, erases);
        return x.produce(log, -1, 0);
    }

    /** "THE DISK has 64 BLOCKS of 32 bytes; four of them are a SLOT (0 .. 15; block 4 * slot is its first)." */
    private static void sixteenSlots() {
        LogBroker x = new LogBroker();
        for (int slot = 0; slot < 16; slot++) {
            int free = 16 - slot;
            Check.due("free before slot " + slot, free, () -> x.look(2));
            Check.sendBig(x, slot % 3);
            Check.sendBig(x, slot % 3);
            int first = 4 * slot;
            int owner = slot % 3 + 1;
            Check.due("OWNER of slot " + slot, owner, () -> x.octet(first, 2));
            Check.due("MARK of slot " + slot, 124, () -> x.octet(first, 1));
            Check.due("last byte of slot " + slot, 15, () -> x.octet(first + 3, 27));
        }
        Check.due("free then", 0, () -> x.look(2));
        Check.due("segments together", 16, () -> x.log(0, 2) + x.log(1, 2) + x.log(2, 2));
    }

    /** "To TAKE a slot: it is the free one with the least number" */
    private static void theLeastFreeSlotIsTaken() {
        LogBroker x = new LogBroker();
        for (int log : new int[] {0, 1, 0, 1, 0}) {
            Check.sendBig(x, log);
            Check.sendBig(x, log);
        }
        Check.due("slots 0 and 2 are let go", 2, () -> x.retain(0, MAX));
        Check.due("free", 13, () -> x.look(2));
        Check.send(x, 2, 0, 0, 0);
        Check.due("slot 0", 3, () -> x.octet(0, 2));
        x.commit(0, 0, 16);
        Check.due("slot 2", 4, () -> x.octet(8, 2));
        Check.sendBig(x, 1);
        Check.due("slot 5", 2, () -> x.octet(20, 2));
        Check.due("free then", 10, () -> x.look(2));
    }

    /** "without one there is NO ROOM." */
    private static void noRoomWithoutAFreeSlot() {
        LogBroker x = new LogBroker();
        for (int i = 0; i < 30; i++) {
            Check.sendBig(x, 0);
        }
        Check.due("one free slot", 1, () -> x.look(2));
        Check.due("it is taken", 0, () -> Check.sendBig(x, 1));
        Check.due("the last slot", 2, () -> x.octet(60, 2));
        Check.due("none for log 2", Check.UOE, () -> Check.send(x, 2, 0, 0, 0));
        Check.due("none for log 0", Check.UOE, () -> Check.sendBig(x, 0));
        Check.dueOf("none for the groups", Check.UOE, () -> x.commit(0, 0, 0));
        Check.due("slots are let go", 13, () -> x.retain(0, MIN));
        Check.due("room for log 2", 0, () -> Check.send(x, 2, 0, 0, 0));
        Check.due("it is slot 0", 3, () -> x.octet(0, 2));
    }

    /** "if there is no segment ... a slot is taken" */
    private static void withoutASegmentASlotIsTaken() {
        LogBroker x = new LogBroker();
        for (int log = 0; log < 3; log++) {
            int to = log;
            Check.due("no segment", 0, () -> x.log(to, 2));
            Check.due("offset", 0, () -> sendSized(x, to, 0, 1));
            Check.due("a segment", 1, () -> x.log(to, 2));
            Check.dueBytes("its header", x, 4 * log, 0, 0, 18, log + 1, 0, 0, 0, 0, 0);
        }
    }

    /** "a write makes its HEADER (MARK 8, GENERATION 0, BASE NEXT) and the other bytes of its first block 0" */
    private static void theFirstBlockBecomesZero() {
        LogBroker x = new LogBroker();
        for (int i = 0; i < 5; i++) {
            Check.sendBig(x, 0);
        }
        x.retain(0, MAX);
        eraseAll(x, 1);
        x.produce(2, -1, 0);
        Check.due("slot 0 is free no more", 3, () -> x.octet(0, 2));
        int[] zeros = new int[14];
        Check.dueBytes("behind the batch", x, 0, 18, zeros);
        Check.due("the second block is as it was", 255, () -> x.octet(1, 3));

        LogBroker y = new LogBroker();
        for (int i = 0; i < 5; i++) {
            Check.sendBig(y, 0);
        }
        y.retain(0, MAX);
        Check.due("a byte of the past", 255, () -> y.octet(0, 19));
        y.cut(1);
        eraseAll(y, 1);
        Check.due("cut behind the header", Check.ISE, () -> y.produce(1, -1, 0));
        Check.dueBytes("header", y, 0, 0, 0, 8, 2, 0, 0, 0, 0, 0);
        Check.dueBytes("zeros behind it", y, 0, 8, new int[24]);
        Check.due("the second block", 255, () -> y.octet(1, 3));
        Check.due("the second slot, BASE of NEXT then", 8, () -> y.octet(4, 7));
    }

    /** "a write for each block that gets bytes of the batch": one to four of them, up to a block's last byte. */
    private static void aWriteForEachBlock() {
        LogBroker x = new LogBroker();
        sendSized(x, 0, 2, 2);
        Check.due("MARK at the end of block 0", 32, () -> x.log(0, 3));
        Check.due("header, one block, MARK", 3, () -> x.look(1));
        sendSized(x, 0, 0, 1);
        Check.due("one block, MARK", 5, () -> x.look(1));
        Check.due("it begins in block 1", 9, () -> x.octet(1, 0));

        LogBroker y = new LogBroker();
        sendSized(y, 0, 3, 1);
        Check.due("one byte in block 1", 33, () -> y.log(0, 3));
        Check.due("header, two blocks, MARK", 4, () -> y.look(1));

        LogBroker z = new LogBroker();
        sendSized(z, 0, 1, 3);
        Check.due("one byte is left in block 0", 31, () -> z.log(0, 3));
        Check.due("header, one block, MARK", 3, () -> z.look(1));
        Check.send(z, 0, 0, MIN, MIN, MIN, MIN, MIN, MIN, MIN, MIN, MIN, MIN, MIN);
        Check.due("one byte more than three blocks and one", 101, () -> z.log(0, 3));
        Check.due("four blocks, MARK", 8, () -> z.look(1));
    }

    /** "Then a write for each block that gets bytes of the batch, in order, then one for MARK." */
    private static void theMarkComesLast() {
        for (int k = 0; k <= 5; k++) {
            LogBroker x = new LogBroker();
            sendSized(x, 0, 1, 3);
            x.add(0, MIN, MIN);
            x.add(MIN, MIN, MIN);
            x.add(MIN, MIN, MIN);
            x.add(MIN, MIN, MIN);
            x.cut(k);
            Check.due("cut after " + k, k < 5 ? Check.ISE : "4", () -> x.produce(0, -1, 0));
            Check.due("block 0", k > 0 ? 69 : 0, () -> x.octet(0, 31));
            Check.due("block 1", k > 1 ? 255 : 0, () -> x.octet(1, 2));
            Check.due("block 2", k > 2 ? 15 : 0, () -> x.octet(2, 2));
            Check.due("block 3", k > 3 ? 15 : 0, () -> x.octet(3, 4));
            Check.due("MARK", k > 4 ? 101 : 31, () -> x.octet(0, 1));
            x.recover();
            Check.due("NEXT read again", k > 4 ? 8 : 4, () -> x.log(0, 1));
        }
    }

    /** A segment with ten batches of 10 bytes: MARK is 108. */
    private static LogBroker with108(int log) {
        LogBroker x = new LogBroker();
        for (int i = 0; i < 10; i++) {
            sendSized(x, log, 0, 1);
        }
        return x;
    }

    /** "the batch does not fit behind MARK in the slot's 128 bytes": 108 + 20 bytes do fit. */
    private static void theSlotIsFilledToTheLastByte() {
        for (int log = 0; log < 3; log++) {
            LogBroker x = with108(log);
            int to = log;
            Check.due("20 bytes", 10, () -> sendSized(x, to, 2, 1));
            Check.same("one segment", "0 13 1 128 3 0", Check.logOf(x, log));
            Check.due("the last byte of the slot", 1, () -> x.octet(3, 31));
            Check.due("the byte behind it", 0, () -> x.octet(4, 0));
            Check.due("the smallest batch then", 13, () -> sendSized(x, to, 0, 1));
            Check.same("two segments", "0 14 2 146 4 13", Check.logOf(x, log));
        }
    }

    /** "the batch does not fit behind MARK in the slot's 128 bytes": 108 + 21 bytes do not. */
    private static void oneByteMoreDoesNotFit() {
        for (int log = 0; log < 3; log++) {
            LogBroker x = with108(log);
            int to = log;
            int writes = x.look(1);
            Check.due("21 bytes", 10, () -> sendSized(x, to, 3, 0));
            Check.same("two segments", "0 13 2 137 4 10", Check.logOf(x, log));
            Check.due("header, a block, MARK", writes + 3, () -> x.look(1));
            Check.dueBytes("no byte of it in the first", x, 3, 12, new int[20]);
            Check.dueBytes("the second", x, 4, 0, 0, 29, log + 1, 0, 0, 0, 0, 10, 20, 0, 0, 255, 0, 3);
        }
    }

    /** "this is the ACTIVE one then": what is free behind an earlier MARK is free for ever. */
    private static void theNewSlotIsTheActiveOne() {
        LogBroker x = with108(0);
        sendSized(x, 0, 3, 0);
        Check.due("a batch that the first would hold", 13, () -> sendSized(x, 0, 0, 1));
        Check.same("it is in the second", "0 14 2 147 4 10", Check.logOf(x, 0));
        Check.due("MARK of the first", 108, () -> x.octet(0, 1));
        Check.due("MARK of the second", 39, () -> x.octet(4, 1));
    }

    /** "NEXT grows by the number of records." */
    private static void nextGrowsByTheRecords() {
        LogBroker x = new LogBroker();
        int[] next = {0, 1, 3, 6, 10};
        for (int i = 1; i <= 4; i++) {
            int count = i;
            Check.due("batch of " + i, next[i - 1], () -> sendSized(x, 1, 0, count));
            Check.due("NEXT", next[i], () -> x.log(1, 1));
        }
        Check.due("of another log", 0, () -> x.log(0, 1));
    }

    /** "an ENTRY for a batch: for the first one, and for one that begins 40 or more bytes behind" */
    private static void entriesAtForty() {
        LogBroker x = new LogBroker();
        Check.due("no segment, no entry", 0, () -> x.log(2, 4));
        sendSized(x, 2, 0, 2);
        Check.due("the first one", 1, () -> x.log(2, 4));
        sendSized(x, 2, 0, 2);
        sendSized(x, 2, 1, 0);
        sendSized(x, 2, 0, 1);
        Check.due("39 bytes behind", 1, () -> x.log(2, 4));
        Check.due("fetch of it", 1, () -> x.fetch(2, 5, 1));
        Check.due("from the first on", 4, () -> x.look(4));
        sendSized(x, 2, 0, 1);
        Check.due("49 bytes behind", 2, () -> x.log(2, 4));
        Check.due("fetch of that", 1, () -> x.fetch(2, 6, 1));
        Check.due("at once", 1, () -> x.look(4));

        LogBroker y = new LogBroker();
        sendSized(y, 2, 0, 2);
        sendSized(y, 2, 1, 1);
        sendSized(y, 2, 1, 0);
        sendSized(y, 2, 0, 1);
        Check.due("40 bytes behind", 2, () -> y.log(2, 4));
        Check.due("fetch of it", 1, () -> y.fetch(2, 5, 1));
        Check.due("at once", 1, () -> y.look(4));
        y.recover();
        Check.due("read again", 2, () -> y.log(2, 4));
    }

    /** "behind the latest batch that has one": batches begin at 8, 22, 37, 48, 62, 77, 87 and 97. */
    private static void entriesFromTheLatestEntry() {
        LogBroker x = new LogBroker();
        int[][] sizes = {{0, 2}, {1, 1}, {1, 0}, {0, 2}, {1, 1}, {0, 1}, {0, 1}, {0, 1}};
        int[] entries = {1, 1, 1, 2, 2, 2, 2, 3};
        for (int i = 0; i < sizes.length; i++) {
            sendSized(x, 0, sizes[i][0], sizes[i][1]);
            int due = entries[i];
            Check.due("entries of " + (i + 1), due, () -> x.log(0, 4));
        }
        x.recover();
        Check.due("read again", 3, () -> x.log(0, 4));
    }

    /** "THE INDEX of a segment has an ENTRY ... for the first one": of each segment. */
    private static void eachSegmentHasAFirstEntry() {
        LogBroker x = new LogBroker();
        for (int i = 0; i < 3; i++) {
            Check.send(x, 0, 0, MIN, MIN, MIN, MIN, MIN, MIN, MIN, MIN, MIN, MIN, MIN);
        }
        Check.same("a batch in each", "0 12 3 234 3 8", Check.logOf(x, 0));
        Check.due("fetch of the last", 1, () -> x.fetch(0, 11, 1));
        Check.due("at once", 1, () -> x.look(4));
    }
}
