/** Promises 2, 3 and 4: add, erase and produce, with the bytes that they leave on the disk. */
public final class BatchTest {
    private static final int MIN = Integer.MIN_VALUE;
    private static final int MAX = Integer.MAX_VALUE;

    public static void main(String[] args) {
        fourRecordsAtMost();
        bytesOfABatch();
        numbersOfAllSizes();
        timesThatWrap();
        wrongArguments();
        newBatchInAnyCase();
        producersInOrder();
        producersAreOfALog();
        sequenceAtTheEnd();
        writesInOrder();
        batchThatJustFits();
        batchThatJustDoesNotFit();
        noRoom();
        whatIsRefusedIsNotInTheBatch();
        theNextBatchIsEmpty();
        theOutermostOnesAreFine();
        argumentsComeBeforeOrder();
        argumentsComeBeforeRoom();
        orderComesBeforeRoom();
        anOlderBatchIsOutOfOrder();
        Check.finish("BatchTest");
    }

    /** "Adds a DELETION to the batch that is being made: true; false (refused) if it has four." */
    private static void fourRecordsAtMost() {
        LogBroker x = new LogBroker();
        Check.due("add 1", true, () -> x.add(1, 2, 3));
        Check.due("erase 2", true, () -> x.erase(4, 5));
        Check.due("add 3", true, () -> x.add(6, 7, 8));
        Check.due("records of three", 3, () -> x.look(3));
        Check.due("erase 4", true, () -> x.erase(9, 10));
        Check.due("add 5", false, () -> x.add(11, 12, 13));
        Check.due("erase 5", false, () -> x.erase(14, 15));
        Check.due("records of four", 4, () -> x.look(3));
        Check.due("produce", 0, () -> x.produce(2, -1, 0));
        Check.due("fetch", 4, () -> x.fetch(2, 0, 8));
        Check.due("key of the last", 10, () -> x.fetched(3, 2));
        Check.due("nothing is written before", 3, () -> x.look(1));
    }

    /** "A BATCH of 1 to 4 records, in bytes: how many bytes follow; V(offset of the first - BASE); Z(time of the first)" */
    private static void bytesOfABatch() {
        LogBroker x = new LogBroker();
        Check.send(x, 1, 0, 0, 0);
        x.add(-3, 64, -65);
        x.erase(-4, -1);
        Check.due("second batch", 1, () -> x.produce(1, 7, 300));
        Check.dueBytes("header", x, 0, 0, 0, 8 + 11 + 18, 2, 0, 0, 0, 0, 0);
        Check.dueBytes("first", x, 0, 8, 10, 0, 0, 255, 0, 1, 0, 0, 0, 0, 0);
        Check.dueBytes("second", x, 0, 19,
                17, 1, 5, 7, 0xAC, 2, 2, 0, 0, 0x80, 1, 0, 0x81, 1, 1, 1, 1, 1, 0);
    }

    /** "A RECORD has an offset, a time, a key, a value (or is a DELETION, without value), all ints." */
    private static void numbersOfAllSizes() {
        int[] numbers = {0, 1, -1, 63, 64, -64, -65, 8191, 8192, -8192, -8193, 1048575, 1048576,
            -1048576, -1048577, 134217727, 134217728, -134217728, -134217729, MAX, MIN};
        for (int number : numbers) {
            LogBroker x = new LogBroker();
            x.add(number, -number, number);
            x.erase(-number, number);
            Check.due("produce " + number, 0, () -> x.produce(0, 0, number & MAX));
            x.fetch(0, 0, 8);
            Check.due("time", number, () -> x.fetched(0, 1));
            Check.due("key", -number, () -> x.fetched(0, 2));
            Check.due("value", number, () -> x.fetched(0, 3));
            Check.due("time of the second", -number, () -> x.fetched(1, 1));
            Check.due("key of the second", number, () -> x.fetched(1, 2));
            Check.due("recover", 0, () -> x.recover());
            Check.due("sequence", number & MAX, () -> x.known(0, 0, 0));
        }
        LogBroker x = new LogBroker();
        Check.send(x, 0, MIN, MAX, -2097152);
        Check.dueBytes("greatest numbers", x, 0, 8, 21, 0, 255, 255, 255, 255, 15, 255, 0, 1,
                0, 0, 254, 255, 255, 255, 15, 0, 255, 255, 255, 1, 0);
    }

    /** "Z(its time - that of the first, wrapping)" */
    private static void timesThatWrap() {
        LogBroker x = new LogBroker();
        Check.send(x, 0, MAX, 0, 0, MIN, 0, 0);
        Check.dueBytes("difference of one", x, 0, 20, 0, 0, 0, 1, 2, 0, 0, 0, 0);
        x.fetch(0, 0, 8);
        Check.due("first time", MAX, () -> x.fetched(0, 1));
        Check.due("second time", MIN, () -> x.fetched(1, 1));
    }

    /** "no such log or producer, sequence below 0 (with a producer), or the batch is empty" */
    private static void wrongArguments() {
        int[][] wrong = {{-1, -1, 0}, {3, -1, 0}, {4, -1, 0}, {MIN, 0, 0}, {MAX, 0, 0}, {0, -2, 0},
            {0, 8, 0}, {0, 255, 0}, {0, MIN, 0}, {0, MAX, 0}, {0, 0, -1}, {2, 7, MIN}};
        for (int[] w : wrong) {
            LogBroker x = new LogBroker();
            x.add(1, 1, 1);
            Check.due("produce of " + w[0] + ", " + w[1] + ", " + w[2], Check.IAE, () -> x.produce(w[0], w[1], w[2]));
            Check.due("writes", 0, () -> x.look(1));
            Check.due("records of the new batch", 0, () -> x.look(3));
        }
        LogBroker x = new LogBroker();
        Check.due("empty without producer", Check.IAE, () -> x.produce(0, -1, 0));
        Check.due("empty with producer", Check.IAE, () -> x.produce(0, 1, 0));
        x.add(1, 1, 1);
        Check.due("the sequence does not count", 0, () -> x.produce(0, -1, MIN));
        Check.dueBytes("nor is it written", x, 0, 11, 255, 0);
    }

    /** "A new batch is begun then in any case." */
    private static void newBatchInAnyCase() {
        LogBroker x = new LogBroker();
        x.add(1, 1, 1);
        x.produce(0, 3, 5);
        Check.due("behind a batch", 0, () -> x.look(3));
        x.add(1, 1, 1);
        Check.due("the same", 0, () -> x.produce(0, 3, 5));
        Check.due("behind the same", 0, () -> x.look(3));
        x.add(1, 1, 1);
        Check.due("out of order", Check.UOE, () -> x.produce(0, 3, 9));
        Check.due("behind one out of order", 0, () -> x.look(3));
        Check.due("records in the log", 1, () -> x.log(0, 1));
    }

    /** "With the latest SEQUENCE plus the latest number, or if none is known: it is appended, and is the latest." */
    private static void producersInOrder() {
        LogBroker x = new LogBroker();
        x.add(1, 1, 1);
        x.add(1, 2, 1);
        Check.due("the first has any sequence", 0, () -> x.produce(0, 4, 10));
        x.add(1, 1, 1);
        x.add(1, 2, 1);
        Check.due("next", 2, () -> x.produce(0, 4, 12));
        Check.same("known", "12 2 2", Check.knownOf(x, 0, 4));
        int writes = x.look(1);
        x.add(9, 9, 9);
        x.erase(9, 9);
        Check.due("the same with other records", 2, () -> x.produce(0, 4, 12));
        Check.due("nothing is appended", writes, () -> x.look(1));
        int[][] wrong = {{12, 1}, {12, 3}, {10, 2}, {13, 2}, {15, 2}, {16, 1}, {0, 2}};
        for (int[] w : wrong) {
            for (int i = 0; i < w[1]; i++) {
                x.add(1, 1, 1);
            }
            Check.due("sequence " + w[0] + " of " + w[1], Check.UOE, () -> x.produce(0, 4, w[0]));
        }
        Check.same("known as before", "12 2 2", Check.knownOf(x, 0, 4));
        x.add(1, 1, 1);
        Check.due("one without producer between", 4, () -> x.produce(0, -1, 0));
        x.add(1, 1, 1);
        Check.due("next with another number", 5, () -> x.produce(0, 4, 14));
        Check.same("known then", "14 1 5", Check.knownOf(x, 0, 4));
    }

    /** "for each log and producer the latest batch is known" */
    private static void producersAreOfALog() {
        LogBroker x = new LogBroker();
        for (int producer = 0; producer < 8; producer++) {
            for (int log = 0; log < 3; log++) {
                int sequence = 100 * producer + log;
                int want = producer;
                int to = log;
                x.add(1, 1, 1);
                Check.due("producer " + producer, want, () -> x.produce(to, want, sequence));
            }
        }
        Check.same("known of 6 in 2", "602 1 6", Check.knownOf(x, 2, 6));
        Check.same("known of 0 in 1", "1 1 0", Check.knownOf(x, 1, 0));
    }

    /** "With the latest SEQUENCE plus the latest number": there is no such int behind the greatest one. */
    private static void sequenceAtTheEnd() {
        LogBroker x = new LogBroker();
        x.add(1, 1, 1);
        Check.due("greatest sequence", 0, () -> x.produce(0, 0, MAX));
        x.add(1, 1, 1);
        Check.due("0 is not the next", Check.UOE, () -> x.produce(0, 0, 0));
        x.add(1, 1, 1);
        Check.due("one below 0 is none", Check.IAE, () -> x.produce(0, 0, MIN));
        x.add(1, 1, 1);
        Check.due("the same", 0, () -> x.produce(0, 0, MAX));
    }

    /** "Then a write for each block that gets bytes of the batch, in order, then one for MARK." */
    private static void writesInOrder() {
        for (int k = 0; k < 5; k++) {
            LogBroker x = new LogBroker();
            Check.send(x, 0, 0, 0, 0);
            int big = MIN;
            x.add(0, big, big);
            x.add(0, big, big);
            x.add(0, big, big);
            x.add(0, big, big);
            x.cut(k);
            Check.due("cut after " + k, k < 4 ? Check.ISE : "1", () -> x.produce(0, 1, 0));
            Check.due("writes", 3 + Math.min(k, 4), () -> x.look(1));
            Check.due("block 0", k > 0 ? 57 : 0, () -> x.octet(0, 19));
            Check.due("block 1", k > 1 ? 255 : 0, () -> x.octet(1, 2));
            Check.due("block 2", k > 2 ? 255 : 0, () -> x.octet(2, 4));
            Check.due("mark", k > 3 ? 77 : 19, () -> x.octet(0, 1));
        }
    }

    /** "the batch does not fit behind MARK in the slot's 128 bytes": four of 30 bytes do. */
    private static void batchThatJustFits() {
        LogBroker x = new LogBroker();
        for (int i = 0; i < 3; i++) {
            Check.send(x, 0, 0, 0, 0, 1 << 30, 0, 0, 0, 0, 0, 0, 0, 0);
        }
        Check.same("three batches of 30", "0 12 1 98 2 0", Check.logOf(x, 0));
        Check.send(x, 0, 0, 0, 0, 1 << 30, 0, 0, 0, 0, 0, 0, 0, 0);
        Check.same("the fourth fills the slot", "0 16 1 128 2 0", Check.logOf(x, 0));
        Check.due("last byte", 0, () -> x.octet(3, 31));
        x.erase(0, 0);
        Check.due("another slot", 16, () -> x.produce(0, -1, 0));
        Check.same("two segments", "0 17 2 146 3 16", Check.logOf(x, 0));
        Check.dueBytes("its bytes", x, 4, 0, 0, 18, 1, 0, 0, 0, 0, 16, 9, 0, 0, 255, 0, 1, 0, 0, 0, 1);
    }

    /** "the batch does not fit behind MARK in the slot's 128 bytes": three of 30 and one of 31. */
    private static void batchThatJustDoesNotFit() {
        LogBroker x = new LogBroker();
        for (int i = 0; i < 3; i++) {
            Check.send(x, 0, 0, 0, 0, 1 << 30, 0, 0, 0, 0, 0, 0, 0, 0);
        }
        Check.send(x, 0, 0, 0, 64, 1 << 30, 0, 0, 0, 0, 0, 0, 0, 0);
        Check.same("31 bytes go to another slot", "0 16 2 137 3 12", Check.logOf(x, 0));
    }

    /** "(NO ROOM: nothing is changed)" */
    private static void noRoom() {
        LogBroker x = new LogBroker();
        for (int i = 0; i < 15; i++) {
            Check.sendBig(x, 0);
            Check.sendBig(x, 0);
        }
        Check.send(x, 1, 0, 0, 0);
        x.add(0, MIN, MIN);
        x.add(0, MIN, MIN);
        x.add(0, MIN, MIN);
        x.add(0, MIN, MIN);
        Check.due("the last one with place", 1, () -> x.produce(1, 2, 0));
        Check.due("free slots", 0, () -> x.look(2));
        int writes = x.look(1);
        String log = Check.logOf(x, 1);
        Check.due("no room", Check.UOE, () -> Check.sendBig(x, 1));
        Check.due("no room for a new log", Check.UOE, () -> Check.send(x, 2, 0, 0, 0));
        x.add(0, MIN, MIN);
        x.add(0, MIN, MIN);
        x.add(0, MIN, MIN);
        x.add(0, MIN, MIN);
        Check.due("no room with a producer", Check.UOE, () -> x.produce(1, 2, 4));
        Check.due("a new batch", 0, () -> x.look(3));
        Check.due("writes as before", writes, () -> x.look(1));
        Check.same("log as before", log, Check.logOf(x, 1));
        Check.same("known as before", "0 4 1", Check.knownOf(x, 1, 2));
        x.add(0, 0, 0);
        x.add(0, 0, 0);
        x.add(0, 0, 0);
        x.add(0, 0, 0);
        Check.due("the same needs no room", 1, () -> x.produce(1, 2, 0));
        Check.due("a small one has place", 5, () -> Check.send(x, 1, 0, 0, 0));
    }

    /** "Adds a record to the batch that is being made: true; false (refused) if it has four." The four are as they were. */
    private static void whatIsRefusedIsNotInTheBatch() {
        LogBroker x = new LogBroker();
        for (int i = 0; i < 4; i++) {
            int k = i;
            Check.due("add " + i, true, () -> x.add(k, 10 + k, 20 + k));
        }
        Check.due("a fifth one", false, () -> x.add(99, 99, 99));
        Check.due("a fifth one, a deletion", false, () -> x.erase(99, 99));
        Check.due("produce", 0, () -> x.produce(0, -1, 0));
        Check.due("fetch", 4, () -> x.fetch(0, 0, 8));
        for (int i = 0; i < 4; i++) {
            int k = i;
            Check.due("time " + i, k, () -> x.fetched(k, 1));
            Check.due("key " + i, 10 + k, () -> x.fetched(k, 2));
            Check.due("value " + i, 20 + k, () -> x.fetched(k, 3));
            Check.due("no deletion " + i, 0, () -> x.fetched(k, 4));
        }
        LogBroker y = new LogBroker();
        for (int i = 0; i < 4; i++) {
            int k = i;
            Check.due("erase " + i, true, () -> y.erase(k, 10 + k));
        }
        Check.due("a fifth deletion", false, () -> y.erase(99, 99));
        Check.due("a fifth one, with a value", false, () -> y.add(99, 99, 99));
        y.produce(0, -1, 0);
        Check.due("fetch of deletions", 4, () -> y.fetch(0, 0, 8));
        Check.due("the last key", 13, () -> y.fetched(3, 2));
        Check.due("a deletion", 1, () -> y.fetched(3, 4));
    }

    /** "A new batch is begun then in any case.": it takes four records again, and has none of the old ones. */
    private static void theNextBatchIsEmpty() {
        LogBroker x = new LogBroker();
        for (int i = 0; i < 4; i++) {
            x.add(1, 1, 1);
        }
        Check.due("no such log", Check.IAE, () -> x.produce(3, -1, 0));
        for (int i = 0; i < 4; i++) {
            int k = i;
            Check.due("records", k, () -> x.look(3));
            Check.due("erase " + i, true, () -> x.erase(2, 50 + k));
        }
        Check.due("the new one is full", false, () -> x.erase(2, 9));
        Check.due("produce", 0, () -> x.produce(0, -1, 0));
        Check.due("fetch", 4, () -> x.fetch(0, 0, 8));
        Check.due("first key", 50, () -> x.fetched(0, 2));
        Check.due("value of a deletion", 0, () -> x.fetched(0, 3));
        Check.due("nothing is left", Check.IAE, () -> x.produce(0, -1, 0));
    }

    /** "to a log (0 .. 2) by a producer (-1: without ...)"; "sequence below 0": 0 and 2, -1 and 7, 0 are fine. */
    private static void theOutermostOnesAreFine() {
        int[][] fine = {{0, -1, -1}, {2, -1, MIN}, {0, 0, 0}, {2, 7, 0}, {0, 7, MAX}, {2, 0, MAX}};
        for (int[] f : fine) {
            LogBroker x = new LogBroker();
            x.add(1, 1, 1);
            Check.due("produce(" + f[0] + ", " + f[1] + ", " + f[2] + ")", 0, () -> x.produce(f[0], f[1], f[2]));
            Check.due("NEXT", 1, () -> x.log(f[0], 1));
            Check.due("known", f[1] < 0 ? -1 : f[2], () -> x.known(f[0], Math.max(f[1], 0), 0));
        }
    }

    /** "IllegalArgumentException: ...; else UnsupportedOperationException: OUT OF ORDER" */
    private static void argumentsComeBeforeOrder() {
        LogBroker x = new LogBroker();
        x.add(1, 1, 1);
        x.produce(0, 4, 10);
        Check.due("empty, out of order", Check.IAE, () -> x.produce(0, 4, 99));
        Check.due("empty, in order", Check.IAE, () -> x.produce(0, 4, 11));
        Check.due("empty, the same sequence", Check.IAE, () -> x.produce(0, 4, 10));
        x.add(1, 1, 1);
        Check.due("below 0", Check.IAE, () -> x.produce(0, 4, -1));
        x.add(1, 1, 1);
        Check.due("out of order", Check.UOE, () -> x.produce(0, 4, 12));
    }

    private static LogBroker withoutRoom() {
        LogBroker x = new LogBroker();
        for (int i = 0; i < 30; i++) {
            Check.sendBig(x, 0);
        }
        x.add(1, 1, 1);
        x.produce(1, 4, 10);
        return x;
    }

    /** "IllegalArgumentException: ...; else UnsupportedOperationException: ... NO ROOM." */
    private static void argumentsComeBeforeRoom() {
        LogBroker x = withoutRoom();
        Check.due("empty", Check.IAE, () -> x.produce(2, -1, 0));
        x.add(1, 1, 1);
        Check.due("no such log", Check.IAE, () -> x.produce(3, -1, 0));
        x.add(1, 1, 1);
        Check.due("no such producer", Check.IAE, () -> x.produce(2, 8, 0));
        x.add(1, 1, 1);
        Check.due("no such sequence", Check.IAE, () -> x.produce(2, 0, -1));
        x.add(1, 1, 1);
        Check.due("no room", Check.UOE, () -> x.produce(2, 0, 0));
        Check.same("nothing is known of it", "-1 -1 -1", Check.knownOf(x, 2, 0));
    }

    /** "(the SAME again): nothing is appended": also where there is NO ROOM; what is OUT OF ORDER needs none either. */
    private static void orderComesBeforeRoom() {
        LogBroker x = withoutRoom();
        Check.sendBig(x, 1);
        x.add(2, 2, 2);
        Check.due("the same", 0, () -> x.produce(1, 4, 10));
        x.add(2, 2, 2);
        Check.due("out of order", Check.UOE, () -> x.produce(1, 4, 10 + 2));
        x.add(2, 2, 2);
        Check.due("the next one has place", 5, () -> x.produce(1, 4, 11));
    }

    /** "Else it is OUT OF ORDER.": the latest one alone is known again. */
    private static void anOlderBatchIsOutOfOrder() {
        LogBroker x = new LogBroker();
        for (int sequence = 0; sequence < 3; sequence++) {
            int s = sequence;
            x.add(1, 1, 1);
            Check.due("batch " + s, s, () -> x.produce(2, 1, s));
        }
        for (int sequence : new int[] {0, 1, 4, 5, MAX}) {
            x.add(1, 1, 1);
            Check.due("sequence " + sequence, Check.UOE, () -> x.produce(2, 1, sequence));
        }
        x.add(1, 1, 1);
        Check.due("the latest", 2, () -> x.produce(2, 1, 2));
        x.add(1, 1, 1);
        x.add(1, 1, 1);
        Check.due("its sequence, two records", Check.UOE, () -> x.produce(2, 1, 2));
        x.add(1, 1, 1);
        x.add(1, 1, 1);
        Check.due("the next", 3, () -> x.produce(2, 1, 3));
        x.add(1, 1, 1);
        Check.due("plus one, but it had two", Check.UOE, () -> x.produce(2, 1, 4));
        x.add(1, 1, 1);
        Check.due("plus two", 5, () -> x.produce(2, 1, 5));
    }
}
