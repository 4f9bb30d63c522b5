/** Promises 8 and 9: commit and committed. */
public final class CommitTest {
    private static final int MIN = Integer.MIN_VALUE;
    private static final int MAX = Integer.MAX_VALUE;

    public static void main(String[] args) {
        bytesOfACommit();
        theLatestCounts();
        eachGroupAndLog();
        wrongArguments();
        startCounts();
        noRoom();
        theBatchBeingMadeStays();
        cutOfACommit();
        behindAProducer();
        keysOfOtherLogs();
        Check.finish("CommitTest");
    }

    /** "a batch of one record, without producer, is appended to log 3: time 0, key 4 * group + log, value the offset" */
    private static void bytesOfACommit() {
        LogBroker x = new LogBroker();
        Check.send(x, 1, 0, 0, 0, 0, 0, 0);
        Check.dueOf("commit", Check.DONE, () -> x.commit(5, 1, 2));
        Check.due("writes", 6, () -> x.look(1));
        Check.same("log of the groups", "0 1 1 19 1 0", Check.logOf(x, 3));
        Check.dueBytes("slot 1", x, 4, 0, 0, 19, 4, 0, 0, 0, 0, 0, 10, 0, 0, 255, 0, 1, 0, 0, 42, 0, 4, 0);
        Check.due("fetch", 1, () -> x.fetch(3, 0, 8));
        Check.due("time", 0, () -> x.fetched(0, 1));
        Check.due("key", 21, () -> x.fetched(0, 2));
        Check.due("value", 2, () -> x.fetched(0, 3));
    }

    /** "What a group COMMITTED for a log is the value of the latest record with that key, as known." */
    private static void theLatestCounts() {
        LogBroker x = new LogBroker();
        Check.send(x, 0, 0, 0, 0, 0, 0, 0, 0, 0, 0, 0, 0, 0);
        for (int offset : new int[] {0, 4, 2, 3, 1}) {
            x.commit(7, 0, offset);
            Check.due("committed", offset, () -> x.committed(7, 0));
        }
        x.recover();
        Check.due("read again", 1, () -> x.committed(7, 0));
        x.commit(7, 0, 4);
        for (int i = 0; i < 12; i++) {
            x.commit(7, 1, 0);
        }
        // ten commits fill a segment: five of six for log 0 go, and all four for log 1
        Check.due("clean", 5 + 4, () -> x.clean(3, MAX));
        Check.due("behind a cleaning", 4, () -> x.committed(7, 0));
        x.recover();
        Check.due("behind a cleaning, read again", 4, () -> x.committed(7, 0));
    }

    /** "GROUPS 0 .. 7 COMMIT an offset for a log" */
    private static void eachGroupAndLog() {
        LogBroker x = new LogBroker();
        for (int i = 0; i < 24; i++) {
            Check.send(x, i % 3, 0, 0, 0);
        }
        for (int group = 0; group < 8; group++) {
            for (int log = 0; log < 3; log++) {
                x.commit(group, log, (group * 3 + log) % 9);
            }
        }
        for (int round = 0; round < 2; round++) {
            for (int group = 0; group < 8; group++) {
                for (int log = 0; log < 3; log++) {
                    int g = group;
                    int l = log;
                    Check.due("committed " + g + ", " + l, (g * 3 + l) % 9, () -> x.committed(g, l));
                }
            }
            x.recover();
        }
    }

    /** "no such group or log; else IndexOutOfBoundsException"; "-1 if it did not, or there is none such." */
    private static void wrongArguments() {
        LogBroker x = new LogBroker();
        Check.send(x, 2, 0, 0, 0);
        int[][] wrong = {{-1, 0}, {8, 0}, {0, -1}, {0, 3}, {0, 4}, {MIN, 0}, {MAX, 0}, {0, MIN}, {0, MAX}};
        for (int[] w : wrong) {
            Check.dueOf("commit " + w[0] + ", " + w[1], Check.IAE, () -> x.commit(w[0], w[1], 0));
            Check.dueOf("before the offset", Check.IAE, () -> x.commit(w[0], w[1], -1));
            Check.due("committed " + w[0] + ", " + w[1], -1, () -> x.committed(w[0], w[1]));
        }
        for (int offset : new int[] {-1, 2, MIN, MAX}) {
            Check.dueOf("commit of " + offset, Check.IOOBE, () -> x.commit(0, 2, offset));
        }
        Check.due("nothing was committed", -1, () -> x.committed(0, 2));
        Check.same("log of the groups", "0 0 0 0 0 -1", Check.logOf(x, 3));
        Check.dueOf("NEXT is an offset", Check.DONE, () -> x.commit(0, 2, 1));
        Check.dueOf("START is an offset", Check.DONE, () -> x.commit(1, 2, 0));
        Check.dueOf("0 of an empty log is one", Check.DONE, () -> x.commit(2, 0, 0));
        Check.dueOf("1 of an empty log is none", Check.IOOBE, () -> x.commit(2, 0, 1));
    }

    /** "offset is not START .. NEXT of that log" */
    private static void startCounts() {
        LogBroker x = new LogBroker();
        Check.sendBig(x, 0);
        Check.sendBig(x, 0);
        Check.sendBig(x, 0);
        x.commit(1, 0, 0);
        Check.due("retain", 1, () -> x.retain(0, 5000));
        Check.dueOf("commit below START", Check.IOOBE, () -> x.commit(1, 0, 7));
        Check.due("as before", 0, () -> x.committed(1, 0));
        Check.dueOf("commit of START", Check.DONE, () -> x.commit(1, 0, 8));
        Check.due("committed", 8, () -> x.committed(1, 0));
    }

    /** "else UnsupportedOperationException: NO ROOM." */
    private static void noRoom() {
        LogBroker x = new LogBroker();
        for (int i = 0; i < 32; i++) {
            Check.sendBig(x, i / 16);
        }
        int writes = x.look(1);
        Check.dueOf("offset comes first", Check.IOOBE, () -> x.commit(0, 0, 65));
        Check.dueOf("no room", Check.UOE, () -> x.commit(0, 0, 64));
        Check.due("writes", writes, () -> x.look(1));
        Check.due("committed", -1, () -> x.committed(0, 0));
        Check.due("retain", 6, () -> x.retain(0, 0));
        Check.dueOf("room", Check.DONE, () -> x.commit(0, 0, 64));
        for (int i = 0; i < 9; i++) {
            x.commit(1, 0, 64);
        }
        Check.due("least free slot was taken", 4, () -> x.octet(0, 2));
    }

    /** "a batch of one record": it is not the batch that is being made. */
    private static void theBatchBeingMadeStays() {
        LogBroker x = new LogBroker();
        x.add(1, 2, 3);
        x.commit(0, 0, 0);
        Check.due("records", 1, () -> x.look(3));
        x.add(4, 5, 6);
        Check.due("produce", 0, () -> x.produce(0, -1, 0));
        x.add(7, 8, 9);
        x.commit(0, 0, 2);
        Check.due("produce", 2, () -> x.produce(0, -1, 0));
        Check.due("fetch", 3, () -> x.fetch(0, 0, 8));
        Check.due("first value", 3, () -> x.fetched(0, 3));
        Check.due("last value", 9, () -> x.fetched(2, 3));
    }

    /** "IllegalStateException: no power." */
    private static void cutOfACommit() {
        for (int k = 0; k < 3; k++) {
            LogBroker x = new LogBroker();
            x.add(1, 1, 1);
            x.cut(k);
            Check.dueOf("commit", Check.ISE, () -> x.commit(0, 0, 0));
            Check.due("the batch is gone", 0, () -> x.look(3));
            Check.due("committed", Check.ISE, () -> x.committed(0, 0));
            Check.due("of none such", Check.ISE, () -> x.committed(-1, 0));
            Check.dueOf("the power comes first", Check.ISE, () -> x.commit(-1, 0, 0));
            x.recover();
            Check.due("committed", -1, () -> x.committed(0, 0));
            Check.same("log of the groups", k == 0 ? "0 0 0 0 0 -1" : "0 0 1 8 0 0", Check.logOf(x, 3));
        }
    }

    /** "a batch of one record, without producer": whoever sent the batch before. */
    private static void behindAProducer() {
        LogBroker x = new LogBroker();
        x.add(9, 9, 9);
        x.produce(0, 7, 300);
        x.commit(0, 0, 1);
        Check.dueBytes("slot 1", x, 4, 0, 0, 19, 4, 0, 0, 0, 0, 0, 10, 0, 0, 255, 0, 1, 0, 0, 0, 0, 2);
        Check.same("no producer is known", "-1 -1 -1", Check.knownOf(x, 3, 7));
        x.recover();
        Check.same("nor read again", "-1 -1 -1", Check.knownOf(x, 3, 7));
    }

    /** "what was committed (the latest records of log 3)": records of other logs may have the same keys. */
    private static void keysOfOtherLogs() {
        LogBroker x = new LogBroker();
        for (int log = 0; log < 3; log++) {
            Check.send(x, log, 0, 0, 50, 0, 1, 51, 0, 2, 52, 0, 4, 53);
        }
        x.commit(1, 0, 2);
        for (int round = 0; round < 2; round++) {
            Check.due("of group 0 for log 0", -1, () -> x.committed(0, 0));
            Check.due("of group 0 for log 1", -1, () -> x.committed(0, 1));
            Check.due("of group 0 for log 2", -1, () -> x.committed(0, 2));
            Check.due("of group 1 for log 0", 2, () -> x.committed(1, 0));
            x.recover();
        }
    }
}
