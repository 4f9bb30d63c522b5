/** Promises 12 and 13: cut and recover. */
public final class PowerTest {
    private static final int MIN = Integer.MIN_VALUE;
    private static final int MAX = Integer.MAX_VALUE;

    public static void main(String[] args) {
        refusedCuts();
        theLatestCutCounts();
        everythingButTheDiskIsGone();
        thePowerIsLookedAtFirst();
        recoverWithThePowerOn();
        recoverTakesTheCutAway();
        emptyActiveSegment();
        whatWasHalfWrittenDoesNotCount();
        segmentsByBase();
        producersReadAgain();
        noCutIsSetAtFirst();
        writesOfSeveralCallsCount();
        everyKindOfWriteIsCut();
        callsWithoutWritesAreNotCut();
        logsWithoutSegments();
        theLatestBatchHasTheGreatestOffset();
        theLatestCommitHasTheGreatestOffset();
        startOfACompactLogIsZero();
        bytesBehindABatchStay();
        startIsGoneToo();
        Check.finish("PowerTest");
    }

    /** "Sets the cut: true; false (refused) if k is below 0 or the power is OFF." */
    private static void refusedCuts() {
        LogBroker x = new LogBroker();
        Check.due("below 0", false, () -> x.cut(-1));
        Check.due("far below 0", false, () -> x.cut(MIN));
        Check.send(x, 0, 0, 0, 0);
        Check.due("no cut was set", 1, () -> x.look(0));
        Check.due("0 is fine", true, () -> x.cut(0));
        Check.due("refused, the cut stays", false, () -> x.cut(-1));
        Check.due("produce", Check.ISE, () -> Check.send(x, 0, 0, 0, 0));
        Check.due("without power", false, () -> x.cut(5));
        Check.due("without power, below 0", false, () -> x.cut(-5));
        x.recover();
        Check.due("no cut behind a recovery", 1, () -> Check.send(x, 0, 0, 0, 0));
        Check.due("the greatest", true, () -> x.cut(MAX));
        Check.due("produce then", 2, () -> Check.send(x, 0, 0, 0, 0));
    }

    /** "if a cut after k writes is set and k were made since, the next one is not made" */
    private static void theLatestCutCounts() {
        LogBroker x = new LogBroker();
        x.cut(0);
        Check.due("again", true, () -> x.cut(3));
        Check.due("three writes", 0, () -> Check.send(x, 0, 0, 0, 0));
        Check.due("the power is on", 1, () -> x.look(0));
        Check.due("calls without writes go on", 1, () -> x.fetch(0, 0, 1));
        Check.due("the fourth", Check.ISE, () -> Check.send(x, 0, 0, 0, 0));
        Check.due("the power is off", 0, () -> x.look(0));
        Check.due("it is not counted", 3, () -> x.look(1));
        x.recover();
        x.cut(3);
        Check.send(x, 0, 0, 0, 0);
        x.cut(3);
        Check.due("it counts from the call on", 2, () -> Check.send(x, 0, 0, 0, 0));
    }

    private static LogBroker full() {
        LogBroker x = new LogBroker();
        for (int log = 0; log < 3; log++) {
            x.add(1, 1, 1);
            x.add(2, 2, 2);
            x.produce(log, log, 10 + log);
        }
        x.commit(4, 1, 2);
        x.fetch(0, 0, 8);
        x.add(9, 9, 9);
        return x;
    }

    private static void gone(LogBroker x) {
        for (int log = 0; log < 4; log++) {
            Check.same("log " + log, "0 0 0 0 0 -1", Check.logOf(x, log));
            for (int producer = 0; producer < 8; producer++) {
                Check.same("known of " + producer, "-1 -1 -1", Check.knownOf(x, log, producer));
            }
        }
        Check.due("the batch", 0, () -> x.look(3));
        Check.due("looked at", 0, () -> x.look(4));
        Check.due("fetched", 0, () -> x.look(5));
        Check.due("a record", Check.IOOBE, () -> x.fetched(0, 0));
    }

    /** "All but the disk is gone then: the batch that is being made, what was fetched, what is known of logs ..." */
    private static void everythingButTheDiskIsGone() {
        LogBroker x = full();
        x.cut(0);
        Check.dueOf("commit", Check.ISE, () -> x.commit(0, 0, 0));
        gone(x);
        Check.due("free slots", 12, () -> x.look(2));
        Check.due("writes", 12, () -> x.look(1));
        Check.due("a byte", 24, () -> x.octet(0, 1));
        Check.due("recover", 0, () -> x.recover());
        Check.due("the power is on", 1, () -> x.look(0));
        for (int log = 0; log < 3; log++) {
            Check.same("log " + log + " again", "0 2 1 24 1 0", Check.logOf(x, log));
            Check.same("known again", 10 + log + " 2 0", Check.knownOf(x, log, log));
        }
        Check.due("committed again", 2, () -> x.committed(4, 1));
        Check.due("the batch is gone", 0, () -> x.look(3));
        Check.due("fetched is gone", Check.IOOBE, () -> x.fetched(0, 0));
    }

    /** "and so does every call that lists it, until RECOVERY (this is looked at first)" */
    private static void thePowerIsLookedAtFirst() {
        LogBroker x = full();
        x.cut(0);
        x.add(1, 1, 1);
        Check.due("produce", Check.ISE, () -> x.produce(0, -1, 0));
        Check.due("produce, wrong", Check.ISE, () -> x.produce(9, 9, -1));
        Check.due("fetch", Check.ISE, () -> x.fetch(0, 0, 1));
        Check.due("fetch, wrong", Check.ISE, () -> x.fetch(9, 9, 9));
        Check.due("fetched", Check.IOOBE, () -> x.fetched(0, 0));
        Check.due("since", Check.ISE, () -> x.since(0, 0));
        Check.due("since, wrong", Check.ISE, () -> x.since(9, 0));
        Check.dueOf("commit", Check.ISE, () -> x.commit(0, 0, 0));
        Check.dueOf("commit, wrong", Check.ISE, () -> x.commit(9, 9, 9));
        Check.due("committed", Check.ISE, () -> x.committed(0, 0));
        Check.due("committed, wrong", Check.ISE, () -> x.committed(9, 9));
        Check.due("clean", Check.ISE, () -> x.clean(2, 0));
        Check.due("clean, wrong", Check.ISE, () -> x.clean(9, 0));
        Check.due("retain", Check.ISE, () -> x.retain(0, 0));
        Check.due("retain, wrong", Check.ISE, () -> x.retain(9, 0));
        Check.due("add", true, () -> x.add(1, 1, 1));
        Check.due("erase", true, () -> x.erase(1, 1));
        Check.due("records", 2, () -> x.look(3));
        Check.due("produce begins a new batch", Check.ISE, () -> x.produce(0, -1, 0));
        Check.due("records", 0, () -> x.look(3));
        x.add(1, 1, 1);
        x.recover();
        Check.due("records behind a recovery", 0, () -> x.look(3));
    }

    /** "RECOVERY, also with the power on: what was not on the disk is gone as with a cut" */
    private static void recoverWithThePowerOn() {
        LogBroker x = full();
        Check.due("recover", 0, () -> x.recover());
        Check.due("the batch", 0, () -> x.look(3));
        Check.due("looked at", 0, () -> x.look(4));
        Check.due("fetched", 0, () -> x.look(5));
        Check.due("a record", Check.IOOBE, () -> x.fetched(0, 0));
        Check.same("log", "0 2 1 24 1 0", Check.logOf(x, 2));
        Check.due("committed", 2, () -> x.committed(4, 1));
        Check.due("writes", 12, () -> x.look(1));
        LogBroker y = new LogBroker();
        Check.due("recover of an empty disk", 0, () -> y.recover());
        gone(y);
        Check.due("committed of nothing", -1, () -> y.committed(0, 0));
    }

    /** "and the cut too" */
    private static void recoverTakesTheCutAway() {
        LogBroker x = new LogBroker();
        x.cut(0);
        Check.due("recover", 0, () -> x.recover());
        Check.due("produce", 0, () -> Check.send(x, 0, 0, 0, 0));
        Check.due("the power is on", 1, () -> x.look(0));
    }

    /** "NEXT is the BASE of the ACTIVE one, or, if it has records, one more than the last one's offset" */
    private static void emptyActiveSegment() {
        LogBroker x = new LogBroker();
        Check.sendBig(x, 0);
        Check.sendBig(x, 0);
        x.cut(1);
        Check.due("cut behind the header", Check.ISE, () -> Check.sendBig(x, 0));
        Check.dueBytes("header", x, 4, 0, 0, 8, 1, 0, 0, 0, 0, 8, 0, 0);
        x.recover();
        Check.same("log", "0 8 2 132 2 8", Check.logOf(x, 0));
        Check.due("fetch from NEXT", 0, () -> x.fetch(0, 8, 8));
        Check.due("looked at", 0, () -> x.look(4));
        Check.due("fetch from the last", 1, () -> x.fetch(0, 7, 8));
        Check.due("looked at", 1, () -> x.look(4));
        Check.due("since", -1, () -> x.since(0, 1));
        Check.due("no second one is taken", 8, () -> Check.sendBig(x, 0));
        Check.same("log then", "0 12 2 190 3 8", Check.logOf(x, 0));
        LogBroker y = new LogBroker();
        Check.sendBig(y, 0);
        Check.sendBig(y, 0);
        y.cut(1);
        Check.due("cut behind the header", Check.ISE, () -> Check.sendBig(y, 0));
        y.recover();
        Check.due("the first may go", 1, () -> y.retain(0, 2000));
        Check.same("an empty log from 8 on", "8 8 1 8 0 8", Check.logOf(y, 0));
        y.recover();
        Check.same("read again", "8 8 1 8 0 8", Check.logOf(y, 0));
    }

    /** "MARK ...: how many bytes of the slot count" */
    private static void whatWasHalfWrittenDoesNotCount() {
        LogBroker x = new LogBroker();
        Check.send(x, 1, 0, 1, 1);
        x.cut(3);
        Check.due("cut before the mark", Check.ISE, () -> Check.sendBig(x, 1));
        x.recover();
        Check.same("log", "0 1 1 19 1 0", Check.logOf(x, 1));
        Check.due("its bytes are there", 57, () -> x.octet(0, 19));
        Check.due("a shorter one", 1, () -> Check.send(x, 1, 0, 2, 2));
        Check.due("bytes behind it stay", 255, () -> x.octet(1, 2));
        Check.due("fetch", 2, () -> x.fetch(1, 0, 8));
        Check.due("looked at", 2, () -> x.look(4));
        Check.same("log then", "0 2 1 30 1 0", Check.logOf(x, 1));
    }

    /**
     * "Logs have their segments by BASE"
     * Slots that were let go are taken again: the order of slots is not that of BASE then.
     */
    private static void segmentsByBase() {
        LogBroker x = new LogBroker();
        for (int i = 0; i < 6; i++) {
            Check.sendBig(x, 0);
        }
        Check.due("retain", 1, () -> x.retain(0, 0));
        for (int i = 0; i < 4; i++) {
            Check.sendBig(x, 0);
        }
        Check.due("slot 0 is the one behind", 24, () -> x.octet(0, 7));
        String log = Check.logOf(x, 0);
        Check.same("log", "8 40 4 496 8 32", log);
        x.recover();
        Check.same("log again", log, Check.logOf(x, 0));
        Check.due("fetch", 8, () -> x.fetch(0, 12, 8));
        Check.same("offsets", "12 13 14 15 16 17 18 19", Check.offsets(x));
        Check.due("looked at", 2, () -> x.look(4));
    }

    /** "producers (the latest batch of each that is there ...) ... are as the batches say" */
    private static void producersReadAgain() {
        LogBroker x = new LogBroker();
        x.add(0, 0, 0);
        x.produce(0, 5, 3);
        x.add(0, 0, 0);
        x.add(0, 0, 0);
        x.produce(0, 5, 4);
        x.add(0, 0, 0);
        x.produce(0, 0, 0);
        x.add(0, 0, 0);
        x.produce(1, 7, 2147483647);
        x.recover();
        Check.same("5", "4 2 1", Check.knownOf(x, 0, 5));
        Check.same("0", "0 1 3", Check.knownOf(x, 0, 0));
        Check.same("7", "2147483647 1 0", Check.knownOf(x, 1, 7));
        Check.same("7 of another log", "-1 -1 -1", Check.knownOf(x, 0, 7));
        x.add(0, 0, 0);
        x.add(0, 0, 0);
        Check.due("the same", 1, () -> x.produce(0, 5, 4));
        x.add(0, 0, 0);
        Check.due("the next", 4, () -> x.produce(0, 5, 6));
    }

    /** "if a cut after k writes is set": without one the power stays on. */
    private static void noCutIsSetAtFirst() {
        LogBroker x = new LogBroker();
        for (int i = 0; i < 20; i++) {
            Check.send(x, 0, 0, 0, 0);
        }
        Check.due("the power is on", 1, () -> x.look(0));
        Check.due("NEXT", 20, () -> x.log(0, 1));
    }

    /** "and k were made since": by one call or by several ones. */
    private static void writesOfSeveralCallsCount() {
        LogBroker x = new LogBroker();
        Check.due("cut", true, () -> x.cut(7));
        Check.due("three", 0, () -> Check.send(x, 0, 0, 0, 0));
        Check.dueOf("six", Check.DONE, () -> x.commit(0, 0, 1));
        Check.due("the eighth is not made", Check.ISE, () -> Check.send(x, 1, 0, 0, 0));
        Check.due("writes", 7, () -> x.look(1));
        Check.due("off", 0, () -> x.look(0));
        Check.dueBytes("the seventh was", x, 8, 0, 0, 8, 2, 0, 0, 0, 0, 0);
    }

    /** "the next one is not made: the power is OFF, the call throws IllegalStateException" */
    private static void everyKindOfWriteIsCut() {
        LogBroker x = new LogBroker();
        x.cut(0);
        Check.due("produce", Check.ISE, () -> Check.send(x, 0, 0, 0, 0));
        Check.due("nothing was written", 0, () -> x.octet(0, 2));
        Check.due("writes", 0, () -> x.look(1));
        x.recover();
        x.cut(0);
        Check.dueOf("commit", Check.ISE, () -> x.commit(0, 0, 0));
        x.recover();
        for (int i = 0; i < 3; i++) {
            Check.sendBig(x, 0);
            Check.sendBig(x, 2);
        }
        x.cut(0);
        Check.due("retain", Check.ISE, () -> x.retain(0, 5000));
        Check.due("off", 0, () -> x.look(0));
        x.recover();
        x.cut(0);
        Check.due("clean", Check.ISE, () -> x.clean(2, 0));
        Check.due("off then", 0, () -> x.look(0));
        x.recover();
        Check.same("log 0", "0 12 2 190 3 8", Check.logOf(x, 0));
        Check.same("log 2", "0 12 2 190 3 8", Check.logOf(x, 2));
    }

    /** "the next one is not made": where there is none, nothing happens. */
    private static void callsWithoutWritesAreNotCut() {
        LogBroker x = full();
        x.cut(0);
        Check.due("fetch", 2, () -> x.fetch(0, 0, 8));
        Check.due("since", 0, () -> x.since(0, 0));
        Check.due("committed", 2, () -> x.committed(4, 1));
        Check.due("clean of nothing", 0, () -> x.clean(2, 0));
        Check.due("retain of nothing", 0, () -> x.retain(0, 0));
        Check.due("a wrong produce", Check.IAE, () -> x.produce(9, 0, 0));
        x.add(1, 1, 1);
        x.add(1, 1, 1);
        Check.due("the same again", 0, () -> x.produce(0, 0, 10));
        Check.dueOf("a wrong commit", Check.IOOBE, () -> x.commit(0, 0, 9));
        Check.due("the power is on", 1, () -> x.look(0));
        x.add(1, 1, 1);
        Check.due("a write", Check.ISE, () -> x.produce(0, -1, 0));
    }

    /** "(without segments NEXT and START are 0)" */
    private static void logsWithoutSegments() {
        LogBroker x = new LogBroker();
        Check.sendBig(x, 0);
        x.cut(0);
        Check.due("the first write of log 1", Check.ISE, () -> Check.send(x, 1, 0, 0, 0));
        x.recover();
        Check.same("log 0", "0 4 1 66 1 0", Check.logOf(x, 0));
        for (int log = 1; log < 4; log++) {
            int from = log;
            Check.same("log " + log, "0 0 0 0 0 -1", Check.logOf(x, log));
            Check.due("fetch", 0, () -> x.fetch(from, 0, 8));
            Check.due("fetch beyond", Check.IOOBE, () -> x.fetch(from, 1, 8));
        }
        Check.due("the first of log 1", 0, () -> Check.send(x, 1, 0, 0, 0));
    }

    /** Log 1 begins in slot 1 and goes on in slot 0, which log 0 has left. */
    private static LogBroker fromSlotOneToZero() {
        LogBroker x = new LogBroker();
        Check.sendBig(x, 0);
        Check.sendBig(x, 0);
        for (int i = 0; i < 2; i++) {
            for (int k = 0; k < 4; k++) {
                x.add(0, MIN, MIN);
            }
            x.produce(1, 3, 100 + 4 * i);
        }
        Check.sendBig(x, 0);
        x.retain(0, 5000);
        x.add(0, 0, 0);
        x.produce(1, 3, 108);
        return x;
    }

    /** "the latest batch of each that is there: that with the greatest offset; as many records as it has" */
    private static void theLatestBatchHasTheGreatestOffset() {
        LogBroker x = fromSlotOneToZero();
        Check.dueBytes("slot 0", x, 0, 0, 0, 19, 2, 0, 0, 0, 0, 8);
        Check.dueBytes("slot 1", x, 4, 0, 0, 124, 2, 0, 0, 0, 0, 0);
        Check.same("known", "108 1 8", Check.knownOf(x, 1, 3));
        x.recover();
        Check.same("read again", "108 1 8", Check.knownOf(x, 1, 3));
        Check.same("log", "0 9 2 143 3 8", Check.logOf(x, 1));
        x.add(1, 1, 1);
        Check.due("the same", 8, () -> x.produce(1, 3, 108));
        x.add(1, 1, 1);
        Check.due("the next", 9, () -> x.produce(1, 3, 109));
    }

    /** "what was committed (the latest records of log 3)" */
    private static void theLatestCommitHasTheGreatestOffset() {
        LogBroker x = new LogBroker();
        Check.sendBig(x, 0);
        Check.sendBig(x, 0);
        for (int i = 0; i < 10; i++) {
            x.commit(2, 0, i % 9);
        }
        Check.sendBig(x, 0);
        x.retain(0, 5000);
        x.commit(2, 0, 12);
        Check.dueBytes("slot 0 is of the groups", x, 0, 0, 0, 19, 4, 0, 0, 0, 0, 10);
        x.recover();
        Check.due("read again", 12, () -> x.committed(2, 0));
        Check.due("of another group", -1, () -> x.committed(1, 0));
        Check.due("of another log", -1, () -> x.committed(2, 1));
    }

    /** "START is the BASE of the first one for a KEEPING log, 0 for a COMPACT one" */
    private static void startOfACompactLogIsZero() {
        LogBroker x = new LogBroker();
        for (int i = 0; i < 3; i++) {
            Check.sendBig(x, 1);
            Check.sendBig(x, 2);
        }
        Check.due("retain", 1, () -> x.retain(1, 5000));
        Check.due("clean", 8, () -> x.clean(2, 0));
        for (int round = 0; round < 2; round++) {
            Check.same("log 1", "8 12 1 66 1 8", Check.logOf(x, 1));
            Check.same("log 2", "0 12 1 66 1 8", Check.logOf(x, 2));
            Check.due("fetch of log 1 from 0", Check.IOOBE, () -> x.fetch(1, 0, 8));
            Check.due("fetch of log 2 from 0", 4, () -> x.fetch(2, 0, 8));
            x.recover();
        }
    }

    /** "a write for each block that gets bytes of the batch": the other bytes of such a block are as they were. */
    private static void bytesBehindABatchStay() {
        for (int records = 1; records < 3; records++) {
            LogBroker x = new LogBroker();
            Check.send(x, 1, 0, 1, 1);
            x.cut(3);
            Check.due("cut before the mark", Check.ISE, () -> Check.sendBig(x, 1));
            x.recover();
            Check.dueBytes("old bytes", x, 0, 27, 255, 255, 255, 255, 15, 0, 255, 255, 255, 255, 15, 1, 0);
            if (records == 1) {
                Check.send(x, 1, 0, 0, 0);
                Check.dueBytes("up to 30, then old ones", x, 0, 27, 0, 0, 0, 255, 15, 0, 255, 255, 255, 255, 15, 1, 0);
            } else {
                Check.send(x, 1, 0, 0, 0, 0, 0, 0);
                Check.dueBytes("up to 35, then old ones", x, 0, 27, 0, 0, 0, 1, 0, 0, 0, 0, 255, 255, 15, 1, 0);
            }
        }
    }

    /** "what is known of logs, producers and groups (they are as at first)": START is 0 again, until RECOVERY. */
    private static void startIsGoneToo() {
        LogBroker x = new LogBroker();
        for (int i = 0; i < 3; i++) {
            Check.sendBig(x, 0);
        }
        x.retain(0, 5000);
        Check.same("log", "8 12 1 66 1 8", Check.logOf(x, 0));
        x.cut(0);
        Check.due("cut", Check.ISE, () -> Check.send(x, 0, 0, 0, 0));
        Check.same("log without power", "0 0 0 0 0 -1", Check.logOf(x, 0));
        x.recover();
        Check.same("log again", "8 12 1 66 1 8", Check.logOf(x, 0));
    }
}
