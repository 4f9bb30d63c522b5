/** Promises 5, 6 and 7: fetch, fetched and since, with what the index lets them pass over. */
public final class FetchTest {
    private static final int MIN = Integer.MIN_VALUE;
    private static final int MAX = Integer.MAX_VALUE;

    public static void main(String[] args) {
        emptyLog();
        wrongArguments();
        indexWithGapOfForty();
        lookingGoesOnToTheEnd();
        throughSegments();
        cleanedLogs();
        fieldsOfARecord();
        aRefusedFetchChangesNothing();
        sinceATime();
        sinceOfALog();
        offsetsFromStartToNext();
        oneToEight();
        theWrongArgumentsComeFirst();
        whatWasFetchedIsACopy();
        sinceAtTheEdges();
        sinceThroughSegments();
        noEntryBehindAnotherFetch();
        Check.finish("FetchTest");
    }

    /** "offset is not START .. NEXT": of an empty log 0 alone; "-1 without" */
    private static void emptyLog() {
        LogBroker x = new LogBroker();
        for (int log = 0; log < 4; log++) {
            int from = log;
            Check.due("fetch of an empty log", 0, () -> x.fetch(from, 0, 8));
            Check.due("looked at", 0, () -> x.look(4));
            Check.due("beyond", Check.IOOBE, () -> x.fetch(from, 1, 8));
            Check.due("below", Check.IOOBE, () -> x.fetch(from, -1, 8));
            Check.due("since", -1, () -> x.since(from, MIN));
        }
        Check.due("nothing fetched", Check.IOOBE, () -> x.fetched(0, 0));
    }

    /** "no such log, or n is not so"; "IllegalArgumentException: no such log." */
    private static void wrongArguments() {
        LogBroker x = new LogBroker();
        Check.send(x, 0, 0, 0, 0);
        int[][] wrong = {{-1, 0, 1}, {4, 0, 1}, {MIN, 0, 1}, {MAX, 0, 1}, {0, 0, 0}, {0, 0, -1}, {0, 0, 9},
            {0, 0, MAX}, {0, 0, MIN}, {4, 5, 0}, {0, 7, 9}};
        for (int[] w : wrong) {
            Check.due("fetch of " + w[0] + ", " + w[1] + ", " + w[2], Check.IAE, () -> x.fetch(w[0], w[1], w[2]));
        }
        for (int offset : new int[] {-1, 2, MIN, MAX}) {
            Check.due("fetch from " + offset, Check.IOOBE, () -> x.fetch(0, offset, 1));
        }
        Check.due("fetch from START", 1, () -> x.fetch(0, 0, 8));
        Check.due("fetch from NEXT", 0, () -> x.fetch(0, 1, 1));
        for (int log : new int[] {-1, 4, MIN, MAX}) {
            Check.due("since of " + log, Check.IAE, () -> x.since(log, 0));
        }
    }

    /**
     * "at the batch of its latest ENTRY whose first record's offset is not greater"
     * Batches of 10 bytes begin at 8, 18, 28, 38, 48, ...: entries at 8, 48, 88, not at 38.
     */
    private static void indexWithGapOfForty() {
        LogBroker x = new LogBroker();
        int[] entries = {1, 1, 1, 1, 2, 2, 2, 2, 3, 3, 3, 3};
        for (int i = 0; i < 12; i++) {
            x.erase(i, i);
            x.produce(2, -1, 0);
            Check.due("entries of " + (i + 1), entries[i], () -> x.log(2, 4));
        }
        int[] looked = {1, 2, 3, 4, 1, 2, 3, 4, 1, 2, 3, 4};
        for (int i = 0; i < 12; i++) {
            int offset = i;
            Check.due("fetch from " + i, 1, () -> x.fetch(2, offset, 1));
            Check.due("looked at for " + i, looked[i], () -> x.look(4));
            Check.due("found for " + i, offset, () -> x.fetched(0, 0));
        }
        Check.due("fetch from the end", 0, () -> x.fetch(2, 12, 1));
        Check.due("looked at for the end", 4, () -> x.look(4));
        LogBroker y = new LogBroker();
        x.recover();
        Check.due("entries read again", 3, () -> x.log(2, 4));
        y.erase(0, 0);
        y.produce(2, -1, 0);
        Check.send(y, 2, 0, 0, 0, 0, 0, 0, 0, 0, 0, 0, 64, 64);
        Check.due("the second ends at 46", 46, () -> y.log(2, 3));
        Check.send(y, 2, 0, 0, 64);
        Check.due("no entry 38 behind", 1, () -> y.log(2, 4));
        y.erase(0, 0);
        y.produce(2, -1, 0);
        Check.due("one 50 behind", 2, () -> y.log(2, 4));
    }

    /** "LOOKS AT batch by batch ... up to that in which the n-th record is found, or the end" */
    private static void lookingGoesOnToTheEnd() {
        LogBroker x = new LogBroker();
        Check.send(x, 0, 1, 1, 1, 2, 2, 2, 3, 3, 3);
        Check.send(x, 0, 4, 4, 4, 5, 5, 5);
        Check.send(x, 0, 6, 6, 6);
        int[][] due = {{0, 1, 1, 1}, {0, 3, 3, 1}, {0, 4, 4, 2}, {0, 5, 5, 2}, {0, 6, 6, 3}, {0, 7, 6, 3},
            {2, 1, 1, 1}, {2, 2, 2, 2}, {4, 1, 1, 2}, {4, 2, 2, 3}, {5, 8, 1, 3}, {6, 1, 0, 3}};
        for (int[] d : due) {
            Check.due("fetch from " + d[0] + " of " + d[1], d[2], () -> x.fetch(0, d[0], d[1]));
            Check.due("looked at", d[3], () -> x.look(4));
            Check.due("count", d[2], () -> x.look(5));
            for (int k = 0; k < d[2]; k++) {
                int i = k;
                Check.due("offset " + k, d[0] + k, () -> x.fetched(i, 0));
            }
            Check.due("one more", Check.IOOBE, () -> x.fetched(d[2], 0));
        }
    }

    /** "It begins in the last segment whose BASE is not greater than offset ... through the segments" */
    private static void throughSegments() {
        LogBroker x = new LogBroker();
        for (int i = 0; i < 6; i++) {
            Check.sendBig(x, 0);
        }
        Check.same("three segments", "0 24 3 372 6 16", Check.logOf(x, 0));
        int[][] due = {{0, 8, 2}, {1, 8, 3}, {4, 8, 2}, {6, 8, 3}, {7, 1, 1}, {8, 1, 1}, {15, 2, 2}, {16, 8, 2},
            {22, 8, 1}, {24, 8, 1}};
        for (int[] d : due) {
            Check.due("fetch from " + d[0], Math.min(d[1], 24 - d[0]), () -> x.fetch(0, d[0], d[1]));
            Check.due("looked at for " + d[0], d[2], () -> x.look(4));
        }
    }

    /**
     * "(the first one, if there is none such)"; "(its first batch, if there is none such)"
     * Behind a cleaning the first segment has a BASE above START, and an entry may lie above the offset.
     */
    private static void cleanedLogs() {
        LogBroker x = new LogBroker();
        Check.sendBig(x, 2);
        Check.sendBig(x, 2);
        Check.send(x, 2, 0, 1, 1, 0, 2, 2);
        Check.sendBig(x, 2);
        Check.sendBig(x, 2);
        Check.same("three segments", "0 18 3 272 4 14", Check.logOf(x, 2));
        Check.due("clean", 12, () -> x.clean(2, 0));
        Check.same("two segments", "0 18 2 90 2 14", Check.logOf(x, 2));
        Check.due("fetch from below the first BASE", 3, () -> x.fetch(2, 0, 3));
        Check.same("found", "8 9 14", Check.offsets(x));
        Check.due("looked at", 2, () -> x.look(4));
        Check.due("fetch from a hole", 1, () -> x.fetch(2, 11, 1));
        Check.same("found", "14", Check.offsets(x));
        Check.due("looked at", 2, () -> x.look(4));
        Check.send(x, 2, 0, 9, 9);
        Check.due("since goes over holes", 8, () -> x.since(2, 0));

        LogBroker y = new LogBroker();
        Check.send(y, 2, 0, 1, 1, 0, 2, 2);
        Check.sendBig(y, 2);
        Check.send(y, 2, 0, 1, 1);
        Check.sendBig(y, 2);
        Check.due("clean of the first record", 5, () -> y.clean(2, 0));
        Check.due("no entry below", 1, () -> y.fetch(2, 0, 1));
        Check.same("found", "1", Check.offsets(y));
    }

    /** "its offset (what = 0), time (1), key (2), value, 0 for a DELETION (3), 1 for a DELETION, else 0 (4)" */
    private static void fieldsOfARecord() {
        LogBroker x = new LogBroker();
        x.add(-7, MIN, MAX);
        x.erase(MAX, -9);
        x.produce(2, -1, 0);
        x.fetch(2, 0, 2);
        int[][] due = {{0, -7, MIN, MAX, 0}, {1, MAX, -9, 0, 1}};
        for (int k = 0; k < 2; k++) {
            for (int what = 0; what < 5; what++) {
                int i = k;
                int w = what;
                Check.due("fetched " + k + ", " + what, due[k][what], () -> x.fetched(i, w));
            }
        }
        int[][] wrong = {{2, 0}, {-1, 0}, {0, -1}, {0, 5}, {8, 0}, {MIN, 0}, {MAX, 0}, {0, MIN}, {0, MAX}};
        for (int[] w : wrong) {
            Check.due("fetched " + w[0] + ", " + w[1], Check.IOOBE, () -> x.fetched(w[0], w[1]));
        }
    }

    /** "What throws or is refused changes nothing": the latest fetch() is the latest that did not throw. */
    private static void aRefusedFetchChangesNothing() {
        LogBroker x = new LogBroker();
        Check.send(x, 0, 1, 2, 3, 4, 5, 6);
        x.fetch(0, 0, 8);
        Check.due("wrong log", Check.IAE, () -> x.fetch(9, 0, 8));
        Check.due("wrong offset", Check.IOOBE, () -> x.fetch(0, 9, 8));
        Check.due("count stays", 2, () -> x.look(5));
        Check.due("looked at stays", 1, () -> x.look(4));
        Check.send(x, 0, 7, 8, 9);
        Check.due("record stays", 6, () -> x.fetched(1, 3));
        Check.due("fetch of nothing", 0, () -> x.fetch(1, 0, 8));
        Check.due("it is the latest", Check.IOOBE, () -> x.fetched(0, 0));
        Check.due("count is new", 0, () -> x.look(5));
        Check.due("looked at is new", 0, () -> x.look(4));
    }

    /** "The least offset of a record of a log whose time is not less than a time" */
    private static void sinceATime() {
        LogBroker x = new LogBroker();
        Check.send(x, 1, 5, 0, 0, 9, 0, 0);
        Check.send(x, 1, 7, 0, 0, -3, 0, 0);
        Check.sendBig(x, 1);
        Check.send(x, 1, MAX, 0, 0);
        x.erase(MIN, 1);
        x.produce(1, -1, 0);
        int[][] due = {{MIN, 0}, {-3, 0}, {5, 0}, {6, 1}, {9, 1}, {10, 8}, {MAX, 8}};
        for (int[] d : due) {
            Check.due("since " + d[0], d[1], () -> x.since(1, d[0]));
        }
        LogBroker y = new LogBroker();
        y.erase(4, 4);
        y.produce(0, -1, 0);
        Check.due("a deletion counts", 0, () -> y.since(0, 4));
        Check.due("none", -1, () -> y.since(0, 5));
    }

    /** "a record of a log": of that one alone. */
    private static void sinceOfALog() {
        LogBroker x = new LogBroker();
        Check.send(x, 0, 10, 0, 0);
        x.commit(0, 0, 0);
        Check.due("of 0", 0, () -> x.since(0, 10));
        Check.due("of 1", -1, () -> x.since(1, 10));
        Check.due("of the groups", 0, () -> x.since(3, 0));
        Check.due("of the groups later", -1, () -> x.since(3, 1));
    }

    /** "IndexOutOfBoundsException: offset is not START .. NEXT." */
    private static void offsetsFromStartToNext() {
        LogBroker x = new LogBroker();
        for (int i = 0; i < 5; i++) {
            Check.sendBig(x, 1);
        }
        Check.due("retain", 2, () -> x.retain(1, 5000));
        Check.same("log", "16 20 1 66 1 16", Check.logOf(x, 1));
        Check.due("START - 1", Check.IOOBE, () -> x.fetch(1, 15, 1));
        Check.due("START", 4, () -> x.fetch(1, 16, 8));
        Check.due("the last record", 1, () -> x.fetch(1, 19, 8));
        Check.due("NEXT", 0, () -> x.fetch(1, 20, 8));
        Check.due("looked at", 1, () -> x.look(4));
        Check.due("NEXT + 1", Check.IOOBE, () -> x.fetch(1, 21, 8));
        Check.due("0", Check.IOOBE, () -> x.fetch(1, 0, 8));
    }

    /** "up to n (1 .. 8)" */
    private static void oneToEight() {
        LogBroker x = new LogBroker();
        Check.sendBig(x, 0);
        Check.sendBig(x, 0);
        Check.sendBig(x, 0);
        for (int n = 1; n <= 8; n++) {
            int count = n;
            Check.due("fetch of " + n, n, () -> x.fetch(0, 1, count));
            Check.due("fetched", n, () -> x.look(5));
            Check.due("the last of them", n, () -> x.fetched(count - 1, 0));
            Check.due("none behind it", Check.IOOBE, () -> x.fetched(count, 0));
        }
        Check.due("fetch of 0", Check.IAE, () -> x.fetch(0, 1, 0));
        Check.due("fetch of 9", Check.IAE, () -> x.fetch(0, 1, 9));
    }

    /** "IllegalArgumentException: no such log, or n is not so; else IndexOutOfBoundsException" */
    private static void theWrongArgumentsComeFirst() {
        LogBroker x = new LogBroker();
        Check.due("log and offset", Check.IAE, () -> x.fetch(4, -1, 1));
        Check.due("n and offset", Check.IAE, () -> x.fetch(0, -1, 0));
        Check.due("n above and offset", Check.IAE, () -> x.fetch(0, 1, 9));
        Check.due("offset alone", Check.IOOBE, () -> x.fetch(0, 1, 8));
        Check.due("log 3 is one", 0, () -> x.fetch(3, 0, 8));
    }

    /** "Of the k-th record of the latest fetch()": also when its segment is there no more. */
    private static void whatWasFetchedIsACopy() {
        LogBroker x = new LogBroker();
        Check.send(x, 0, 1, 2, 3);
        Check.sendBig(x, 0);
        Check.sendBig(x, 0);
        x.fetch(0, 0, 1);
        x.retain(0, 5000);
        Check.send(x, 1, 7, 8, 9);
        Check.due("its slot has another log", 2, () -> x.octet(0, 2));
        Check.due("time", 1, () -> x.fetched(0, 1));
        Check.due("key", 2, () -> x.fetched(0, 2));
        Check.due("value", 3, () -> x.fetched(0, 3));
    }

    /** "whose time is not less than a time; -1 without." */
    private static void sinceAtTheEdges() {
        LogBroker x = new LogBroker();
        Check.send(x, 0, MIN, 0, 0, -1, 0, 0, 0, 0, 0, MAX, 0, 0);
        int[][] due = {{MIN, 0}, {MIN + 1, 1}, {-1, 1}, {0, 2}, {1, 3}, {MAX, 3}};
        for (int[] d : due) {
            Check.due("since " + d[0], d[1], () -> x.since(0, d[0]));
        }
        LogBroker y = new LogBroker();
        Check.send(y, 0, MAX - 1, 0, 0);
        Check.due("equal", 0, () -> y.since(0, MAX - 1));
        Check.due("one less", -1, () -> y.since(0, MAX));
        Check.due("log 3 is one", -1, () -> y.since(3, MIN));
        LogBroker z = new LogBroker();
        Check.send(z, 0, 9, 0, 0);
        Check.sendBig(z, 0);
        Check.sendBig(z, 0);
        Check.due("before", 0, () -> z.since(0, 0));
        z.retain(0, 5000);
        Check.due("what was let go does not count", 5, () -> z.since(0, 0));
        Check.due("nor its time", -1, () -> z.since(0, 9));
    }

    /** "The least offset of a record of a log": in whichever segment it is. */
    private static void sinceThroughSegments() {
        LogBroker x = new LogBroker();
        for (int i = 0; i < 5; i++) {
            Check.sendBig(x, 0);
        }
        Check.send(x, 0, 3, 0, 0, 8, 0, 0, 5, 0, 0);
        Check.same("three segments", "0 23 3 335 6 16", Check.logOf(x, 0));
        int[][] due = {{0, 0}, {1, 20}, {3, 20}, {4, 21}, {8, 21}, {9, -1}};
        for (int[] d : due) {
            Check.due("since " + d[0], d[1], () -> x.since(0, d[0]));
        }
    }

    /** "(its first batch, if there is none such)": wherever the fetch before began. */
    private static void noEntryBehindAnotherFetch() {
        LogBroker x = new LogBroker();
        Check.sendBig(x, 0);
        Check.sendBig(x, 0);
        for (int i = 0; i < 3; i++) {
            int k = i == 2 ? 5 : 1;
            Check.send(x, 2, 0, k, 0, 0, k + 1, 0, 0, k + 2, 0, 0, k + 3, 0);
        }
        Check.send(x, 2, 0, 1, 0, 0, 2, 0, 0, 3, 0, 0, 4, 0);
        Check.sendBig(x, 2);
        Check.same("two segments", "0 20 2 178 3 16", Check.logOf(x, 2));
        Check.due("clean of the first eight", 8, () -> x.clean(2, 0));
        Check.due("fetch of log 0", 4, () -> x.fetch(0, 4, 8));
        Check.due("at its second entry", 1, () -> x.look(4));
        Check.due("fetch of log 2", 8, () -> x.fetch(2, 6, 8));
        Check.same("found", "8 9 10 11 12 13 14 15", Check.offsets(x));
        Check.due("looked at", 2, () -> x.look(4));
    }
}
