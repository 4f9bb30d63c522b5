/** Promise 10: clean. */
public final class CleanTest {
    private static final int MIN = Integer.MIN_VALUE;
    private static final int MAX = Integer.MAX_VALUE;

    public static void main(String[] args) {
        wrongLogs();
        theActiveOneStays();
        bytesOfACleanedSegment();
        ageOfDeletions();
        laterDeletions();
        nothingIsLeft();
        generations();
        producersStay();
        endsWithoutRoom();
        endsWithTooManyBytes();
        justEnoughBytes();
        oneByteTooMany();
        cutAtEveryWrite();
        aLaterOneAnywhere();
        deletionsInTheActiveOneStay();
        anEmptyActiveOne();
        whatIsNotChangedStays();
        behindMarkTheBlockBecomesZero();
        theLeastFreeSlotIsTaken();
        noBatchWithoutRecords();
        baseNextAndStartStay();
        theIndexIsMadeAnew();
        whatWasDoneStays();
        cutWhereNothingIsLeft();
        whatWasCommittedStays();
        theLastRecordGoes();
        aBatchBehindTheEnd();
        Check.finish("CleanTest");
    }

    /** "CLEANS a COMPACT log ... IllegalArgumentException: it is none." */
    private static void wrongLogs() {
        LogBroker x = new LogBroker();
        for (int log : new int[] {-1, 0, 1, 4, MIN, MAX}) {
            Check.due("clean of " + log, Check.IAE, () -> x.clean(log, 0));
        }
        Check.due("clean of an empty log", 0, () -> x.clean(2, 0));
        Check.due("clean of the groups' log", 0, () -> x.clean(3, 0));
    }

    /** "its segments but the ACTIVE one, from the first on" */
    private static void theActiveOneStays() {
        LogBroker x = new LogBroker();
        Check.send(x, 2, 0, 1, 1, 0, 1, 2, 0, 1, 3);
        Check.due("clean", 0, () -> x.clean(2, MAX));
        Check.due("writes", 3, () -> x.look(1));
        Check.sendBig(x, 2);
        Check.sendBig(x, 2);
        Check.due("clean, two segments", 2 + 4, () -> x.clean(2, MAX));
        Check.due("again", 0, () -> x.clean(2, MAX));
        Check.same("log", "0 11 2 85 2 7", Check.logOf(x, 2));
    }

    /**
     * "HEADER with OWNER 0, GENERATION one greater ..., the same BASE and the MARK it has then"
     * Bytes that a cleaning leaves alone are those of blocks that get none.
     */
    private static void bytesOfACleanedSegment() {
        LogBroker x = new LogBroker();
        Check.sendBig(x, 0);
        Check.sendBig(x, 0);
        Check.sendBig(x, 1);
        Check.sendBig(x, 0);
        Check.due("slot 0 is let go", 1, () -> x.retain(0, 9999));
        x.add(70, 1, 5);
        x.add(80, 2, 6);
        x.erase(95, 3);
        x.add(75, 4, 7);
        x.produce(2, 6, 11);
        Check.due("it is taken", 3, () -> x.octet(0, 2));
        Check.sendBig(x, 2);
        Check.sendBig(x, 2);
        Check.send(x, 2, 0, 1, 1, 0, 4, 4);
        int writes = x.look(1);
        Check.due("clean", 2 + 4, () -> x.clean(2, 195));
        Check.due("writes", writes + 3, () -> x.look(1));
        Check.dueBytes("old slot", x, 0, 0, 0, 92, 0, 0);
        Check.dueBytes("new slot", x, 16, 0, 0, 24, 3, 1, 0, 0, 0, 0,
                15, 1, 0xA0, 1, 6, 11, 2, 0, 0, 4, 0, 12, 1, 30, 6, 1, 0, 0, 0, 0, 0, 0, 0);
        Check.due("records that are left", 8, () -> x.fetch(2, 0, 8));
        Check.same("offsets", "1 2 8 9 10 11 12 13", Check.offsets(x));
    }

    /** "or it is a DELETION and its time is less than the cleaning time - 100 (in longs)" */
    private static void ageOfDeletions() {
        int[][] due = {{0, 100, 0}, {0, 101, 1}, {-1, 99, 0}, {-1, 100, 1}, {MIN, MIN, 0}, {MIN, MIN + 100, 0},
            {MIN, MIN + 101, 1}, {MAX, MAX, 0}, {MAX, MIN, 0}, {MIN, MAX, 1}, {MAX - 100, MAX, 0}, {MAX - 101, MAX, 1}};
        for (int[] d : due) {
            LogBroker x = new LogBroker();
            x.erase(d[0], 5);
            x.produce(2, -1, 0);
            Check.send(x, 2, d[0], 6, 0);
            Check.sendBig(x, 2);
            Check.sendBig(x, 2);
            int gone = 4 * (x.log(2, 2) - 1);
            Check.due("deletion of " + d[0] + " at " + d[1], gone + d[2], () -> x.clean(2, d[1]));
        }
    }

    /** "a later one of the log has its key": a DELETION is one too, and may go with what it deletes. */
    private static void laterDeletions() {
        LogBroker x = new LogBroker();
        Check.send(x, 2, 500, 1, 1, 500, 2, 2, 500, 3, 3);
        x.erase(0, 1);
        x.erase(500, 2);
        x.produce(2, -1, 0);
        Check.sendBig(x, 2);
        Check.send(x, 2, 500, 9, 9);
        Check.sendBig(x, 2);
        Check.due("an old deletion and what it deletes go at once", 4 + 2 + 1, () -> x.clean(2, 400));
        x.fetch(2, 0, 8);
        Check.same("left", "2 4 9 10 11 12 13", Check.offsets(x));
        Check.due("it is a deletion", 1, () -> x.fetched(1, 4));
    }

    /** "If nothing is left, only that." */
    private static void nothingIsLeft() {
        LogBroker x = new LogBroker();
        for (int i = 0; i < 32; i++) {
            Check.sendBig(x, 2);
        }
        Check.due("no free slot", 0, () -> x.look(2));
        int writes = x.look(1);
        Check.due("clean needs none", 15 * 8, () -> x.clean(2, 0));
        Check.due("a write for each", writes + 15, () -> x.look(1));
        Check.due("free slots", 15, () -> x.look(2));
        Check.same("log", "0 128 1 124 2 120", Check.logOf(x, 2));
        Check.due("START stays", 4, () -> x.fetch(2, 0, 4));
        x.recover();
        Check.same("read again", "0 128 1 124 2 120", Check.logOf(x, 2));
    }

    /** "GENERATION one greater"; "In a batch that was cleaned the first one that is left is the first" */
    private static void generations() {
        LogBroker x = new LogBroker();
        Check.send(x, 2, 0, 1, 0, 0, 2, 0, 0, 3, 0, 0, 4, 0);
        Check.send(x, 2, 0, 5, 0);
        Check.sendBig(x, 2);
        Check.sendBig(x, 2);
        for (int i = 1; i <= 4; i++) {
            Check.send(x, 2, 0, i, 0);
            int gone = i == 1 ? 5 : 1;
            Check.due("clean " + i, gone, () -> x.clean(2, 0));
            int slot = i % 2 == 1 ? 2 : 0;
            int generation = i;
            Check.due("generation " + i, generation, () -> x.octet(4 * slot, 3));
            Check.due("owner " + i, 3, () -> x.octet(4 * slot, 2));
            Check.due("free slots", 14, () -> x.look(2));
        }
        x.fetch(2, 0, 1);
        Check.same("left in it", "4", Check.offsets(x));
        Check.dueBytes("the first that is left is the first", x, 0, 8, 10, 4, 0, 255, 0, 1, 0, 0, 10, 0, 0);
    }

    /** "NEXT, START, producers and what was committed stay."; "SEQUENCE and PRODUCER are as they were" */
    private static void producersStay() {
        LogBroker x = new LogBroker();
        x.add(0, 1, 1);
        x.add(0, 2, 2);
        x.produce(2, 1, 40);
        x.add(0, 1, 1);
        x.produce(2, 2, 50);
        Check.sendBig(x, 2);
        Check.send(x, 2, 0, 1, 1);
        Check.sendBig(x, 2);
        Check.due("clean", 2 + 4, () -> x.clean(2, 0));
        Check.same("known of 1", "40 2 0", Check.knownOf(x, 2, 1));
        Check.same("known of 2", "50 1 2", Check.knownOf(x, 2, 2));
        x.recover();
        Check.same("of 1 as the batch says", "40 1 1", Check.knownOf(x, 2, 1));
        Check.same("of 2 nothing is there", "-1 -1 -1", Check.knownOf(x, 2, 2));
        x.add(0, 7, 7);
        Check.due("next of 1", 12, () -> x.produce(2, 1, 41));
        x.add(0, 7, 7);
        Check.due("2 may begin anew", 13, () -> x.produce(2, 2, 0));
    }

    /**
     * "(NO ROOM: the cleaning ends there, what was done stays)"
     * Segment 0 can be dropped, 1 must move, 2 must move: the slot of 0 is room for 1 and so on.
     */
    private static void endsWithoutRoom() {
        LogBroker x = new LogBroker();
        for (int i = 0; i < 26; i++) {
            Check.sendBig(x, 0);
        }
        Check.send(x, 2, 0, 1, 1, 0, 2, 2);
        Check.sendBig(x, 2);
        Check.sendBig(x, 2);
        Check.sendBig(x, 2);
        Check.sendBig(x, 2);
        Check.due("no free slot", 0, () -> x.look(2));
        String log = Check.logOf(x, 2);
        Check.due("clean ends at once", 0, () -> x.clean(2, 0));
        Check.same("log as before", log, Check.logOf(x, 2));
        Check.due("a slot is let go", 11, () -> x.retain(0, -100000));
        Check.due("then there is room", 4 + 8, () -> x.clean(2, 0));

        LogBroker y = new LogBroker();
        for (int i = 0; i < 26; i++) {
            Check.sendBig(y, 0);
        }
        Check.sendBig(y, 2);
        Check.sendBig(y, 2);
        Check.send(y, 2, 0, 1, 1, 0, 2, 2);
        Check.sendBig(y, 2);
        Check.sendBig(y, 2);
        Check.due("no free slot", 0, () -> y.look(2));
        Check.due("the first makes room for the second", 8 + 4, () -> y.clean(2, 0));
        Check.due("its slot", 3, () -> y.octet(52, 2));
        Check.due("its generation", 1, () -> y.octet(52, 3));
        Check.due("the second's old slot", 0, () -> y.octet(56, 2));
    }

    private static void sendWide(LogBroker x, int key) {
        Check.send(x, 2, 0, 1, 0, 1 << 30, key, 0, 0, key + 1, 0, 0, key + 2, 0);
    }

    /**
     * "(At a segment that would have more than 128 bytes then the cleaning ends as without room.)"
     * Each of these batches has 30 bytes, and 33 without its first record.
     */
    private static void endsWithTooManyBytes() {
        LogBroker x = new LogBroker();
        for (int i = 0; i < 4; i++) {
            sendWide(x, 10 + 3 * i);
        }
        Check.due("a full slot", 128, () -> x.log(2, 3));
        Check.send(x, 2, 0, 50, 0);
        Check.sendBig(x, 2);
        Check.send(x, 2, 0, 1, 0, 0, 50, 0);
        Check.sendBig(x, 2);
        int writes = x.look(1);
        Check.due("clean ends there, the next one too", 0, () -> x.clean(2, 0));
        Check.due("writes", writes, () -> x.look(1));
        Check.same("log", "0 27 3 287 5 23", Check.logOf(x, 2));
    }

    /** "a segment that would have more than 128 bytes": 128 are fine. */
    private static void justEnoughBytes() {
        LogBroker x = new LogBroker();
        for (int i = 0; i < 3; i++) {
            sendWide(x, 10 + 3 * i);
        }
        Check.send(x, 2, 0, 20, 0, 0, 21, 0, 0, 22, 0);
        Check.due("119 bytes", 119, () -> x.log(2, 3));
        Check.send(x, 2, 0, 1, 0);
        Check.due("another segment", 2, () -> x.log(2, 2));
        int writes = x.look(1);
        Check.due("clean to 128 bytes", 3, () -> x.clean(2, 0));
        Check.due("writes", writes + 6, () -> x.look(1));
        Check.due("marks", 128 + 19, () -> x.log(2, 3));
        Check.due("entries", 2 + 1, () -> x.log(2, 4));
        x.fetch(2, 0, 8);
        Check.same("offsets", "1 2 3 5 6 7 9 10", Check.offsets(x));
        Check.due("time", 1 << 30, () -> x.fetched(3, 1));
        Check.due("time behind it", 0, () -> x.fetched(4, 1));
    }

    /** "then a write makes OWNER what it must be; then a write makes the old slot's OWNER 0" */
    private static void cutAtEveryWrite() {
        for (int k = 0; k < 5; k++) {
            LogBroker x = new LogBroker();
            Check.send(x, 2, 0, 1, 0, 0, 2, 0, 0, 3, 0, 0, 4, 0);
            Check.send(x, 2, 0, 5, 0, 0, 6, 0);
            Check.sendBig(x, 2);
            Check.send(x, 2, 0, 1, 1);
            Check.sendBig(x, 2);
            Check.same("log", "0 15 2 185 4 11", Check.logOf(x, 2));
            x.cut(k);
            Check.due("clean, cut after " + k, k < 4 ? Check.ISE : "5", () -> x.clean(2, 0));
            Check.due("free slots", k == 3 ? 13 : 14, () -> x.look(2));
            Check.due("new owner", k > 2 ? 3 : 0, () -> x.octet(8, 2));
            Check.due("old owner", k > 3 ? 0 : 3, () -> x.octet(0, 2));
            Check.due("new mark", k > 0 ? 56 : 0, () -> x.octet(8, 1));
            Check.due("recover", k == 3 ? 1 : 0, () -> x.recover());
            Check.same("log then", k < 3 ? "0 15 2 185 4 11" : "0 15 2 122 2 11", Check.logOf(x, 2));
            Check.due("free slots then", 14, () -> x.look(2));
        }
    }

    /** "(At a segment that would have more than 128 bytes then the cleaning ends as without room.)": 129. */
    private static void oneByteTooMany() {
        LogBroker x = new LogBroker();
        for (int i = 0; i < 3; i++) {
            sendWide(x, 10 + 3 * i);
        }
        Check.send(x, 2, 0, 20, 0, 0, 21, 0, 0, 22, 64);
        Check.due("120 bytes", 120, () -> x.log(2, 3));
        Check.send(x, 2, 0, 1, 0);
        int writes = x.look(1);
        Check.due("clean to 129 bytes", 0, () -> x.clean(2, 0));
        Check.due("writes", writes, () -> x.look(1));
        Check.same("log", "0 16 2 139 3 15", Check.logOf(x, 2));
        Check.due("all free slots stay", 14, () -> x.look(2));
    }

    /** "a record is left out if a later one of the log has its key" */
    private static void aLaterOneAnywhere() {
        LogBroker x = new LogBroker();
        Check.send(x, 2, 0, 1, 0, 0, 1, 0, 0, 2, 0, 0, 3, 0);
        Check.send(x, 2, 0, 2, 0, 0, 4, 0, 0, 5, 0);
        Check.sendBig(x, 2);
        Check.sendBig(x, 2);
        Check.send(x, 2, 0, 3, 0);
        Check.sendBig(x, 2);
        Check.send(x, 2, 0, 4, 0);
        Check.same("three segments", "0 21 3 267 6 16", Check.logOf(x, 2));
        // of the first: 0 in its batch, 2 in its segment, 3 and the big one behind it, 5 in the ACTIVE one
        Check.due("clean", 4 + 4 + 4, () -> x.clean(2, 0));
        x.fetch(2, 0, 8);
        Check.same("left", "1 4 6 15 16 17 18 19", Check.offsets(x));
    }

    /** "its segments but the ACTIVE one": neither its deletions nor what is there twice. */
    private static void deletionsInTheActiveOneStay() {
        LogBroker x = new LogBroker();
        x.erase(0, 1);
        x.erase(0, 1);
        x.produce(2, -1, 0);
        int writes = x.look(1);
        Check.due("clean", 0, () -> x.clean(2, MAX));
        Check.due("writes", writes, () -> x.look(1));
        Check.due("both are there", 2, () -> x.fetch(2, 0, 8));
    }

    /**
     * "its segments but the ACTIVE one"
     * A header without batches behind it is the ACTIVE one: all others are cleaned.
     */
    private static void anEmptyActiveOne() {
        LogBroker x = new LogBroker();
        Check.sendBig(x, 2);
        Check.sendBig(x, 2);
        x.cut(1);
        Check.due("cut behind the header", Check.ISE, () -> Check.sendBig(x, 2));
        x.recover();
        Check.same("log", "0 8 2 132 2 8", Check.logOf(x, 2));
        Check.due("clean", 7, () -> x.clean(2, 0));
        Check.same("log then", "0 8 2 35 1 8", Check.logOf(x, 2));
        Check.due("fetch", 1, () -> x.fetch(2, 0, 8));
        Check.same("the last one is left", "7", Check.offsets(x));
    }

    /** "If that changes a segment": one that is not changed keeps its slot, GENERATION and bytes. */
    private static void whatIsNotChangedStays() {
        LogBroker x = new LogBroker();
        Check.send(x, 2, 0, 1, MIN, 0, 2, MIN, 0, 3, MIN, 0, 4, MIN);
        Check.send(x, 2, 0, 5, MIN, 0, 6, MIN, 0, 7, MIN, 0, 8, MIN);
        Check.send(x, 2, 0, 9, MIN, 0, 10, MIN, 0, 11, MIN);
        Check.due("one segment", 1, () -> x.log(2, 2));
        Check.sendBig(x, 2);
        Check.sendBig(x, 2);
        Check.sendBig(x, 2);
        Check.due("three segments", 3, () -> x.log(2, 2));
        int writes = x.look(1);
        Check.due("the second one goes", 8, () -> x.clean(2, 0));
        Check.due("by one write", writes + 1, () -> x.look(1));
        Check.dueBytes("the first", x, 0, 0, 0, 125, 3, 0, 0, 0, 0, 0);
        Check.due("the second's OWNER", 0, () -> x.octet(4, 2));
        Check.due("GENERATION of the third", 0, () -> x.octet(8, 3));
    }

    /** Log 2 in slots 1 and 2; slot 0 is free, with the bytes of two big batches of log 0. */
    private static LogBroker withOldBytes() {
        LogBroker x = new LogBroker();
        Check.sendBig(x, 0);
        Check.sendBig(x, 0);
        Check.send(x, 2, 0, 1, 0, 0, 2, 0, 0, 3, 0);
        Check.send(x, 2, 0, 4, 0, 0, 5, 0);
        Check.sendBig(x, 2);
        Check.sendBig(x, 2);
        Check.send(x, 2, 0, 1, 1);
        Check.sendBig(x, 0);
        Check.due("slot 0 is let go", 1, () -> x.retain(0, 5000));
        Check.same("log 2", "0 14 2 180 3 9", Check.logOf(x, 2));
        return x;
    }

    /** "a write for each block that gets bytes, in order, behind MARK the block becomes 0" */
    private static void behindMarkTheBlockBecomesZero() {
        LogBroker x = withOldBytes();
        Check.due("an old byte of block 1", 2, () -> x.octet(1, 8));
        Check.due("an old byte of block 2", 255, () -> x.octet(2, 5));
        int writes = x.look(1);
        Check.due("clean", 5, () -> x.clean(2, 0));
        Check.due("two blocks, two OWNERs", writes + 4, () -> x.look(1));
        Check.dueBytes("header", x, 0, 0, 0, 40, 3, 1, 0, 0, 0, 0);
        Check.dueBytes("batches", x, 0, 8, 15, 1, 0, 255, 0, 2, 0, 0, 4, 0, 0, 1, 0, 6, 0, 0,
                15, 3, 0, 255, 0, 2, 0, 0, 8, 0, 0, 1, 0, 10, 0, 0);
        Check.dueBytes("behind MARK", x, 1, 8, new int[24]);
        Check.dueBytes("block 2 gets none", x, 2, 0, 255, 15, 57, 4, 0, 255);
        Check.due("block 3 gets none", 15, () -> x.octet(3, 27));
    }

    /** "a slot is taken": the free one with the least number, also by a cleaning. */
    private static void theLeastFreeSlotIsTaken() {
        LogBroker x = withOldBytes();
        x.clean(2, 0);
        Check.due("slot 0", 3, () -> x.octet(0, 2));
        Check.due("slot 1", 0, () -> x.octet(4, 2));
        Check.send(x, 1, 0, 0, 0);
        Check.due("slot 1 is free for others", 2, () -> x.octet(4, 2));
        Check.send(x, 2, 0, 2, 2);
        Check.due("clean again", 1, () -> x.clean(2, 0));
        Check.dueBytes("slots 2 and 3 are in use", x, 16, 0, 0, 35, 3, 2);
        Check.due("slot 0 is free", 0, () -> x.octet(0, 2));
    }

    /** "its batches without those records (none without records)" */
    private static void noBatchWithoutRecords() {
        LogBroker x = new LogBroker();
        Check.send(x, 2, 0, 1, 0);
        Check.send(x, 2, 0, 2, 0);
        Check.send(x, 2, 0, 3, 0);
        Check.sendBig(x, 2);
        Check.sendBig(x, 2);
        Check.send(x, 2, 0, 2, 2);
        Check.due("clean", 5, () -> x.clean(2, 0));
        Check.dueBytes("two of four batches", x, 8, 0, 0, 30, 3, 1, 0, 0, 0, 0,
                10, 0, 0, 255, 0, 1, 0, 0, 2, 0, 0, 10, 2, 0, 255, 0, 1, 0, 0, 6, 0, 0, 0, 0);
        Check.due("fetch", 2, () -> x.fetch(2, 0, 2));
        Check.due("looked at", 2, () -> x.look(4));
    }

    /** "the same BASE"; "NEXT, START, producers and what was committed stay." */
    private static void baseNextAndStartStay() {
        LogBroker x = new LogBroker();
        Check.sendBig(x, 2);
        Check.sendBig(x, 2);
        Check.send(x, 2, 0, 1, 0, 0, 2, 0);
        Check.sendBig(x, 2);
        Check.sendBig(x, 2);
        Check.send(x, 2, 0, 1, 0);
        Check.same("log", "0 19 3 283 5 14", Check.logOf(x, 2));
        Check.due("clean", 8 + 5, () -> x.clean(2, 0));
        Check.same("log then", "0 19 2 96 3 14", Check.logOf(x, 2));
        // the first segment's slot 0 is free by then
        Check.dueBytes("BASE 8, the first record has 9", x, 0, 0, 0, 19, 3, 1, 0, 0, 0, 8, 10, 1);
        Check.due("fetch from START", 6, () -> x.fetch(2, 0, 8));
        Check.same("found", "9 14 15 16 17 18", Check.offsets(x));
        x.recover();
        Check.same("read again", "0 19 2 96 3 14", Check.logOf(x, 2));
    }

    /** "The index is made anew.": batches begin at 8, 29, 50 and 71, then at 8, 24, 40 and 56. */
    private static void theIndexIsMadeAnew() {
        LogBroker x = new LogBroker();
        for (int i = 0; i < 4; i++) {
            Check.send(x, 2, 0, 1, 0, 0, 10 + i, 0, 0, 20 + i, 0);
        }
        Check.due("entries at 8 and 50", 2, () -> x.log(2, 4));
        Check.sendBig(x, 2);
        Check.send(x, 2, 0, 1, 0);
        Check.due("one more, at 8 of the next", 3 + 1, () -> x.log(2, 4));
        Check.due("fetch of 7", 1, () -> x.fetch(2, 7, 1));
        Check.due("from the entry at 50", 1, () -> x.look(4));
        Check.due("clean", 4, () -> x.clean(2, 0));
        Check.due("entries at 8 and 56, and those of the next", 4, () -> x.log(2, 4));
        Check.due("fetch of 7 again", 1, () -> x.fetch(2, 7, 1));
        Check.due("from the entry at 8", 3, () -> x.look(4));
        Check.due("fetch of 10", 1, () -> x.fetch(2, 10, 1));
        Check.due("from the entry at 56", 1, () -> x.look(4));
        Check.due("fetch of 9, which is gone", 1, () -> x.fetch(2, 9, 1));
        Check.due("from the entry at 8", 4, () -> x.look(4));
        x.recover();
        Check.due("read again", 4, () -> x.log(2, 4));
    }

    /**
     * "the cleaning ends there, what was done stays": the first segment is made anew, the second one would have 140
     * bytes, the third one could go.
     */
    private static void whatWasDoneStays() {
        LogBroker x = new LogBroker();
        Check.sendBig(x, 2);
        Check.send(x, 2, 0, 50, 0, 0, 51, 0, 0, 52, 0, 0, 53, 0);
        Check.send(x, 2, 0, 54, 0, 0, 55, 0, 0, 56, 0, 0, 57, 0);
        Check.due("one segment", 1, () -> x.log(2, 2));
        for (int i = 0; i < 4; i++) {
            sendWide(x, 10 + 3 * i);
        }
        Check.due("two segments", 2, () -> x.log(2, 2));
        Check.sendBig(x, 2);
        Check.sendBig(x, 2);
        Check.sendBig(x, 2);
        Check.send(x, 2, 0, 1, 0);
        Check.same("four segments", "0 41 4 447 8 36", Check.logOf(x, 2));
        Check.due("clean", 4, () -> x.clean(2, 0));
        Check.same("log", "0 41 4 389 7 36", Check.logOf(x, 2));
        Check.dueBytes("the first was made anew", x, 16, 0, 0, 60, 3, 1, 0, 0, 0, 0);
        Check.due("its old slot", 0, () -> x.octet(0, 2));
        Check.dueBytes("the second is as it was", x, 4, 0, 0, 128, 3, 0);
        Check.dueBytes("the third is as it was", x, 8, 0, 0, 124, 3, 0);
        x.recover();
        Check.same("read again", "0 41 4 389 7 36", Check.logOf(x, 2));
    }

    /** "If nothing is left, only that.": one write, and a cut before it. */
    private static void cutWhereNothingIsLeft() {
        for (int k = 0; k < 2; k++) {
            LogBroker x = new LogBroker();
            Check.sendBig(x, 2);
            Check.sendBig(x, 2);
            Check.sendBig(x, 2);
            x.cut(k);
            Check.due("clean, cut after " + k, k < 1 ? Check.ISE : "8", () -> x.clean(2, 0));
            Check.due("OWNER", k < 1 ? 3 : 0, () -> x.octet(0, 2));
            Check.due("recover", 0, () -> x.recover());
            Check.same("log", k < 1 ? "0 12 2 190 3 8" : "0 12 1 66 1 8", Check.logOf(x, 2));
        }
    }

    /** "producers and what was committed stay": a cleaning of log 3 lets go of old commits alone. */
    private static void whatWasCommittedStays() {
        LogBroker x = new LogBroker();
        Check.send(x, 2, 0, 0, 0, 0, 0, 0, 0, 0, 0);
        x.commit(0, 2, 1);
        for (int i = 0; i < 11; i++) {
            x.commit(1, 2, i % 4);
        }
        Check.due("clean", 9, () -> x.clean(3, 0));
        Check.due("of group 0", 1, () -> x.committed(0, 2));
        Check.due("of group 1", 2, () -> x.committed(1, 2));
        Check.due("of group 2", -1, () -> x.committed(2, 2));
        x.recover();
        Check.due("of group 0, read again", 1, () -> x.committed(0, 2));
        Check.due("of group 1, read again", 2, () -> x.committed(1, 2));
    }

    /** "If nothing is left, only that.": also where one record was left by an earlier cleaning. */
    private static void theLastRecordGoes() {
        LogBroker x = new LogBroker();
        Check.send(x, 2, 0, 1, 0);
        Check.sendBig(x, 2);
        Check.sendBig(x, 2);
        Check.due("clean", 4, () -> x.clean(2, 0));
        Check.same("one record is left", "0 9 2 85 2 5", Check.logOf(x, 2));
        Check.send(x, 2, 0, 1, 1);
        int writes = x.look(1);
        Check.due("clean again", 1, () -> x.clean(2, 0));
        Check.due("one write", writes + 1, () -> x.look(1));
        Check.same("one segment", "0 10 1 77 2 5", Check.logOf(x, 2));
        Check.due("free slots", 15, () -> x.look(2));
    }

    /**
     * "a segment that would have more than 128 bytes": four batches of 26 bytes would have 30 each, so that a fifth one
     * would begin where the slot ends.
     */
    private static void aBatchBehindTheEnd() {
        LogBroker x = new LogBroker();
        for (int i = 0; i < 4; i++) {
            x.erase(0, 1);
            x.erase(1 << 30, 10 + 3 * i);
            x.erase(0, 11 + 3 * i);
            x.erase(0, 12 + 3 * i);
            x.produce(2, -1, 0);
        }
        x.erase(0, 50);
        x.produce(2, -1, 0);
        Check.same("122 bytes", "0 17 1 122 3 0", Check.logOf(x, 2));
        Check.send(x, 2, 0, 1, 0);
        int writes = x.look(1);
        Check.due("clean to 138 bytes", 0, () -> x.clean(2, 0));
        Check.due("writes", writes, () -> x.look(1));
        Check.same("log", "0 18 2 141 4 17", Check.logOf(x, 2));
        Check.due("clean where old deletions go too", 13, () -> x.clean(2, 101));
        Check.same("the young ones are left", "0 18 2 83 3 17", Check.logOf(x, 2));
    }
}
