/** Promise 11: retain. */
public final class RetainTest {
    private static final int MIN = Integer.MIN_VALUE;
    private static final int MAX = Integer.MAX_VALUE;
    private static final int KEY = Integer.MIN_VALUE;

    public static void main(String[] args) {
        wrongLogs();
        age();
        greatestTimeOfAll();
        theFirstThatStaysEndsIt();
        size();
        producersStay();
        cutAtEveryWrite();
        onlyTheActiveOneIsLeft();
        anEmptyActiveOne();
        theOtherLogsStay();
        timesOfOtherLogs();
        Check.finish("RetainTest");
    }

    /** Sends 42 to 58 bytes: two such batches of one time fit into a slot, a third one does not. */
    private static void sendTimes(LogBroker x, int log, int a, int b, int c, int d) {
        Check.send(x, log, a, KEY, 0, b, KEY, 0, c, KEY, 0, d, KEY, 0);
    }

    /** "RETAINS a KEEPING log ... IllegalArgumentException: it is none."; "as long as it has more than one segment" */
    private static void wrongLogs() {
        LogBroker x = new LogBroker();
        for (int log : new int[] {-1, 2, 3, 4, MIN, MAX}) {
            Check.due("retain of " + log, Check.IAE, () -> x.retain(log, 0));
        }
        Check.due("retain of an empty log", 0, () -> x.retain(0, MAX));
        Check.send(x, 1, 0, 0, 0);
        Check.due("the only segment stays", 0, () -> x.retain(1, MAX));
    }

    /** "if the greatest time of its records is less than the time - 1000 (in longs)" */
    private static void age() {
        int[][] due = {{0, 1000, 0}, {0, 1001, 1}, {-5, 995, 0}, {-5, 996, 1}, {MIN, MIN, 0}, {MIN, MIN + 1000, 0},
            {MIN, MIN + 1001, 1}, {MAX, MIN, 0}, {MAX, MAX, 0}, {MAX - 1000, MAX, 0}, {MAX - 1001, MAX, 1}};
        for (int[] d : due) {
            LogBroker x = new LogBroker();
            for (int i = 0; i < 3; i++) {
                sendTimes(x, 1, d[0], d[0], d[0], d[0]);
            }
            Check.due("segments", 2, () -> x.log(1, 2));
            Check.due("time " + d[0] + " at " + d[1], d[2], () -> x.retain(1, d[1]));
            Check.due("START", 8 * d[2], () -> x.log(1, 0));
            Check.due("free slots", 14 + d[2], () -> x.look(2));
        }
    }

    /** "the greatest time of its records": wherever it stands. */
    private static void greatestTimeOfAll() {
        for (int at = 0; at < 8; at++) {
            LogBroker x = new LogBroker();
            int[] times = new int[8];
            times[at] = 30;
            sendTimes(x, 0, times[0], times[1], times[2], times[3]);
            sendTimes(x, 0, times[4], times[5], times[6], times[7]);
            Check.sendBig(x, 0);
            Check.due("two segments", 2, () -> x.log(0, 2));
            Check.due("not yet", 0, () -> x.retain(0, 1030));
            Check.due("writes of none", 0, () -> x.log(0, 0));
            Check.due("then", 1, () -> x.retain(0, 1031));
            Check.due("START", 8, () -> x.log(0, 0));
        }
    }

    /** "the first one is let go": no other one before it. */
    private static void theFirstThatStaysEndsIt() {
        LogBroker x = new LogBroker();
        sendTimes(x, 0, 500, 500, 500, 500);
        sendTimes(x, 0, 500, 500, 500, 500);
        sendTimes(x, 0, 0, 0, 0, 0);
        sendTimes(x, 0, 0, 0, 0, 0);
        sendTimes(x, 0, 0, 0, 0, 0);
        Check.due("segments", 3, () -> x.log(0, 2));
        int writes = x.look(1);
        Check.due("an old one behind a young one stays", 0, () -> x.retain(0, 1500));
        Check.due("writes", writes, () -> x.look(1));
        Check.due("START", 0, () -> x.log(0, 0));
        Check.due("both are old then", 2, () -> x.retain(0, 1501));
        Check.due("START then", 16, () -> x.log(0, 0));
        Check.due("writes then", writes + 2, () -> x.look(1));
    }

    /**
     * "or all other segments have together MARKS of 240 or more"
     * The second segment has 124 bytes, the third one 8 + 58 + 49 or, with a value, 50.
     */
    private static void size() {
        for (int extra = 0; extra < 2; extra++) {
            LogBroker x = new LogBroker();
            for (int i = 0; i < 5; i++) {
                Check.sendBig(x, 1);
            }
            x.add(0, KEY, KEY);
            x.add(0, KEY, KEY);
            x.add(0, KEY, KEY);
            boolean done = extra == 0 ? x.erase(0, 0) : x.add(0, 0, 0);
            Check.due("the last record", true, () -> done);
            x.produce(1, -1, 0);
            Check.due("marks", 124 + 239 + extra, () -> x.log(1, 3));
            Check.due("retain of " + (239 + extra), extra, () -> x.retain(1, MIN));
            Check.due("the other log is another", 0, () -> x.retain(0, MAX));
        }
        LogBroker y = new LogBroker();
        for (int i = 0; i < 10; i++) {
            Check.sendBig(y, 0);
        }
        Check.due("as long as the others have so many", 3, () -> y.retain(0, MIN));
        Check.same("log", "24 40 2 248 4 32", Check.logOf(y, 0));
        Check.due("free slots", 14, () -> y.look(2));
    }

    /** "a write makes its OWNER 0; START becomes the BASE of the segment that is first then": and nothing else. */
    private static void producersStay() {
        LogBroker x = new LogBroker();
        x.add(0, 0, 0);
        x.produce(0, 3, 7);
        Check.sendBig(x, 0);
        Check.sendBig(x, 0);
        x.fetch(0, 0, 1);
        Check.due("retain", 1, () -> x.retain(0, 2000));
        Check.same("known", "7 1 0", Check.knownOf(x, 0, 3));
        Check.due("what was fetched stays", 0, () -> x.fetched(0, 0));
        x.add(0, 0, 0);
        Check.due("the same", 0, () -> x.produce(0, 3, 7));
        x.recover();
        Check.same("known then", "-1 -1 -1", Check.knownOf(x, 0, 3));
        Check.same("log", "5 9 1 66 1 5", Check.logOf(x, 0));
    }

    /** "a write makes its OWNER 0": one for each segment, from the first on. */
    private static void cutAtEveryWrite() {
        for (int k = 0; k < 3; k++) {
            LogBroker x = new LogBroker();
            for (int i = 0; i < 6; i++) {
                Check.sendBig(x, 0);
            }
            x.cut(k);
            Check.due("retain, cut after " + k, k < 2 ? Check.ISE : "2", () -> x.retain(0, 2000));
            Check.due("first owner", k > 0 ? 0 : 1, () -> x.octet(0, 2));
            Check.due("second owner", k > 1 ? 0 : 1, () -> x.octet(4, 2));
            Check.due("recover", 0, () -> x.recover());
            Check.due("START", 8 * k, () -> x.log(0, 0));
            Check.due("NEXT", 24, () -> x.log(0, 1));
            Check.due("segments", 3 - k, () -> x.log(0, 2));
        }
    }

    /** "as long as it has more than one segment" */
    private static void onlyTheActiveOneIsLeft() {
        LogBroker x = new LogBroker();
        for (int i = 0; i < 32; i++) {
            Check.sendBig(x, 0);
        }
        Check.due("no free slot", 0, () -> x.look(2));
        int writes = x.look(1);
        Check.due("all but the ACTIVE one", 15, () -> x.retain(0, MAX));
        Check.due("a write for each", writes + 15, () -> x.look(1));
        Check.same("log", "120 128 1 124 2 120", Check.logOf(x, 0));
        Check.due("again", 0, () -> x.retain(0, MAX));
        Check.due("no write", writes + 15, () -> x.look(1));
        x.recover();
        Check.same("read again", "120 128 1 124 2 120", Check.logOf(x, 0));
    }

    /**
     * "as long as it has more than one segment"
     * A header without batches behind it is a segment too: it has a MARK of 8, and is the ACTIVE one.
     */
    private static void anEmptyActiveOne() {
        LogBroker x = new LogBroker();
        Check.sendBig(x, 1);
        Check.sendBig(x, 1);
        x.cut(1);
        Check.due("cut behind the header", Check.ISE, () -> Check.sendBig(x, 1));
        x.recover();
        Check.same("log", "0 8 2 132 2 8", Check.logOf(x, 1));
        Check.due("not yet", 0, () -> x.retain(1, 1000));
        Check.due("then", 1, () -> x.retain(1, 1001));
        Check.same("log then", "8 8 1 8 0 8", Check.logOf(x, 1));
        Check.due("the empty one stays", 0, () -> x.retain(1, MAX));
        Check.due("fetch from START, which is NEXT", 0, () -> x.fetch(1, 8, 8));
        Check.due("fetch below", Check.IOOBE, () -> x.fetch(1, 7, 8));
        Check.due("the next batch", 8, () -> Check.sendBig(x, 1));
    }

    /** "RETAINING a KEEPING log": that one alone. */
    private static void theOtherLogsStay() {
        LogBroker x = new LogBroker();
        for (int i = 0; i < 3; i++) {
            Check.sendBig(x, 0);
            Check.sendBig(x, 1);
            Check.sendBig(x, 2);
        }
        Check.due("retain of 1", 1, () -> x.retain(1, MAX));
        Check.same("log 0", "0 12 2 190 3 8", Check.logOf(x, 0));
        Check.same("log 1", "8 12 1 66 1 8", Check.logOf(x, 1));
        Check.same("log 2", "0 12 2 190 3 8", Check.logOf(x, 2));
        Check.due("retain of 0", 1, () -> x.retain(0, MAX));
        Check.same("log 0 then", "8 12 1 66 1 8", Check.logOf(x, 0));
    }

    /** "the greatest time of its records": not of what was read of another log before. */
    private static void timesOfOtherLogs() {
        LogBroker x = new LogBroker();
        for (int i = 0; i < 3; i++) {
            Check.sendBig(x, 0);
        }
        Check.send(x, 1, MAX, 0, 0);
        Check.due("fetch of a late one", 1, () -> x.fetch(1, 0, 8));
        Check.due("not yet", 0, () -> x.retain(0, 1000));
        Check.due("fetch of it again", 1, () -> x.fetch(1, 0, 8));
        Check.due("then", 1, () -> x.retain(0, 1001));
    }
}
