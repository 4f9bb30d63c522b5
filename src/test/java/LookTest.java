/** Promises 1, 14, 15, 16 and 17: a new object, log, known, octet and look. */
public final class LookTest {
    private static final int MIN = Integer.MIN_VALUE;
    private static final int MAX = Integer.MAX_VALUE;

    public static void main(String[] args) {
        aNewObject();
        objectsAreApart();
        wrongQuestions();
        logs();
        knownProducers();
        octets();
        looks();
        theCornersOfTheDisk();
        theDiskWithoutPower();
        theLastCallsOfAnObject();
        Check.finish("LookTest");
    }

    /** "An empty disk, empty logs, the power on." */
    private static void aNewObject() {
        LogBroker x = new LogBroker();
        for (int log = 0; log < 4; log++) {
            Check.same("log " + log, "0 0 0 0 0 -1", Check.logOf(x, log));
            for (int producer = 0; producer < 8; producer++) {
                Check.same("known", "-1 -1 -1", Check.knownOf(x, log, producer));
            }
        }
        int[] looks = {1, 0, 16, 0, 0, 0};
        for (int what = 0; what < 6; what++) {
            int w = what;
            Check.due("look " + what, looks[what], () -> x.look(w));
        }
        for (int group = 0; group < 8; group++) {
            int g = group;
            Check.due("committed", -1, () -> x.committed(g, g % 3));
        }
        Check.due("fetched", Check.IOOBE, () -> x.fetched(0, 0));
        LogBroker y = new LogBroker();
        int sum = 0;
        for (int i = 0; i < 2048; i += 5) {
            sum += y.octet(i / 32, i % 32);
        }
        int bytes = sum;
        Check.due("bytes", 0, () -> bytes);
    }

    /** "A new object": another one does not know of it. */
    private static void objectsAreApart() {
        LogBroker x = new LogBroker();
        LogBroker y = new LogBroker();
        Check.send(x, 0, 1, 2, 3);
        Check.due("its log", 1, () -> x.log(0, 1));
        Check.due("the other's log", 0, () -> y.log(0, 1));
        Check.due("the other's byte", 0, () -> y.octet(0, 1));
    }

    /** "-1 for another log or what"; "or there is none such"; "-1 if there is none"; "-1 for another what" */
    private static void wrongQuestions() {
        LogBroker x = new LogBroker();
        x.add(1, 1, 1);
        x.produce(0, 0, 0);
        for (int wrong : new int[] {-1, 64, 100, MIN, MAX}) {
            Check.due("log of " + wrong, -1, () -> x.log(wrong, 0));
            Check.due("log, what " + wrong, -1, () -> x.log(0, wrong));
            Check.due("known of log " + wrong, -1, () -> x.known(wrong, 0, 0));
            Check.due("known of producer " + wrong, -1, () -> x.known(0, wrong, 0));
            Check.due("known, what " + wrong, -1, () -> x.known(0, 0, wrong));
            Check.due("octet of block " + wrong, -1, () -> x.octet(wrong, 0));
            Check.due("octet, k " + wrong, -1, () -> x.octet(0, wrong));
            Check.due("look, what " + wrong, -1, () -> x.look(wrong));
        }
        Check.due("log 4", -1, () -> x.log(4, 1));
        Check.due("log, what 6", -1, () -> x.log(0, 6));
        Check.due("known of log 3", -1, () -> x.known(3, 0, 0));
        Check.due("known of log 4", -1, () -> x.known(4, 0, 0));
        Check.due("known of producer 8", -1, () -> x.known(0, 8, 0));
        Check.due("known of producer 255", -1, () -> x.known(0, 255, 0));
        Check.due("known, what 3", -1, () -> x.known(0, 0, 3));
        Check.due("octet, k 32", -1, () -> x.octet(0, 32));
        Check.due("look, what 6", -1, () -> x.look(6));
    }

    /** "START (what = 0), NEXT (1), how many segments it has (2), the MARKS of these together (3), the entries ... (4)" */
    private static void logs() {
        LogBroker x = new LogBroker();
        Check.send(x, 0, 0, 0, 0);
        Check.sendBig(x, 0);
        Check.sendBig(x, 0);
        Check.sendBig(x, 2);
        x.commit(0, 0, 0);
        Check.same("log 0", "0 9 2 143 2 5", Check.logOf(x, 0));
        Check.same("log 1", "0 0 0 0 0 -1", Check.logOf(x, 1));
        Check.same("log 2", "0 4 1 66 1 0", Check.logOf(x, 2));
        Check.same("log 3", "0 1 1 19 1 0", Check.logOf(x, 3));
        x.retain(0, 1001);
        Check.same("log 0 then", "5 9 1 66 1 5", Check.logOf(x, 0));
    }

    /** "the SEQUENCE (what = 0), how many records (1), the offset (2) of the latest batch; -1 if none is known" */
    private static void knownProducers() {
        LogBroker x = new LogBroker();
        Check.send(x, 2, 0, 0, 0);
        x.add(0, 0, 0);
        x.add(0, 0, 0);
        x.add(0, 0, 0);
        x.produce(2, 0, 77);
        Check.same("of 0 in 2", "77 3 1", Check.knownOf(x, 2, 0));
        Check.same("of 0 in 0", "-1 -1 -1", Check.knownOf(x, 0, 0));
        Check.same("of 1 in 2", "-1 -1 -1", Check.knownOf(x, 2, 1));
        x.add(0, 0, 0);
        x.produce(2, 7, 0);
        Check.same("of 7 in 2", "0 1 4", Check.knownOf(x, 2, 7));
    }

    /** "Byte k of a block" */
    private static void octets() {
        LogBroker x = new LogBroker();
        for (int i = 0; i < 32; i++) {
            Check.sendBig(x, 1);
        }
        Check.due("owner of the last slot", 2, () -> x.octet(60, 2));
        Check.due("its BASE", 120, () -> x.octet(60, 7));
        Check.due("behind its MARK", 0, () -> x.octet(63, 31));
        Check.due("the byte before MARK", 15, () -> x.octet(63, 27));
        Check.due("bytes are not below 0", 255, () -> x.octet(63, 26));
        x.recover();
        Check.due("also behind a recovery", 2, () -> x.octet(60, 2));
    }

    /** "1 if the power is on, else 0 (what = 0); the writes ever (1); the free slots (2); the records of the batch ..." */
    private static void looks() {
        LogBroker x = new LogBroker();
        x.add(1, 1, 1);
        x.add(1, 1, 1);
        x.add(1, 1, 1);
        Check.due("records", 3, () -> x.look(3));
        x.produce(0, -1, 0);
        Check.due("writes", 3, () -> x.look(1));
        Check.due("free", 15, () -> x.look(2));
        Check.send(x, 0, 0, 0, 0);
        Check.due("writes of a batch in two blocks", 6, () -> x.look(1));
        x.fetch(0, 2, 2);
        Check.due("looked at", 2, () -> x.look(4));
        Check.due("fetched", 2, () -> x.look(5));
        x.cut(0);
        Check.due("cut", Check.ISE, () -> Check.send(x, 0, 0, 0, 0));
        int[] looks = {0, 6, 15, 0, 0, 0};
        for (int what = 0; what < 6; what++) {
            int w = what;
            Check.due("look " + what + " without power", looks[what], () -> x.look(w));
        }
    }

    /** "Byte k of a block ...; -1 if there is none." */
    private static void theCornersOfTheDisk() {
        LogBroker x = new LogBroker();
        int[][] due = {{0, 0, 0}, {0, 31, 0}, {63, 0, 0}, {63, 31, 0}, {-1, 0, -1}, {64, 0, -1}, {0, -1, -1}, {0, 32, -1},
            {63, 32, -1}, {63, -1, -1}, {-1, 31, -1}, {64, 31, -1}, {-1, -1, -1}, {64, 32, -1}, {1, MIN, -1}, {1, MAX, -1},
            {MIN, 1, -1}, {MAX, 1, -1}, {1, -32, -1}, {-1, 32, -1}};
        for (int[] d : due) {
            Check.due("octet(" + d[0] + ", " + d[1] + ")", d[2], () -> x.octet(d[0], d[1]));
        }
    }

    /** "also without power" */
    private static void theDiskWithoutPower() {
        LogBroker x = new LogBroker();
        for (int i = 0; i < 32; i++) {
            Check.sendBig(x, 0);
        }
        x.cut(0);
        Check.due("cut", Check.ISE, () -> x.retain(0, 0));
        Check.dueBytes("slot 0", x, 0, 0, 0, 124, 1, 0, 0, 0, 0, 0, 57, 0, 0, 255);
        Check.dueBytes("slot 15", x, 60, 0, 0, 124, 1, 0, 0, 0, 0, 120, 57, 0, 0, 255);
        Check.due("the last block", 15, () -> x.octet(63, 27));
        Check.due("no block", -1, () -> x.octet(64, 0));
        Check.due("no byte", -1, () -> x.octet(63, 32));
        Check.due("the power", 0, () -> x.look(0));
        Check.due("the free slots", 0, () -> x.look(2));
    }

    /** "An object is used for at most 512 calls after it has been made": the 512th is answered as the first. */
    private static void theLastCallsOfAnObject() {
        LogBroker x = new LogBroker();
        for (int round = 1; round <= 5; round++) {
            for (int i = 0; i < 50; i++) {
                x.add(0, 0, 0);
                x.produce(0, -1, 0);
            }
            Check.due("retain", true, () -> x.retain(0, MAX) > 3);
        }
        Check.due("call 506", true, () -> x.add(7, 8, 9));
        Check.due("call 507", 250, () -> x.produce(0, -1, 0));
        Check.due("call 508", 1, () -> x.fetch(0, 250, 8));
        Check.due("call 509", 7, () -> x.fetched(0, 1));
        Check.due("call 510", 8, () -> x.fetched(0, 2));
        Check.due("call 511", 9, () -> x.fetched(0, 3));
        Check.due("call 512", 251, () -> x.log(0, 1));
    }
}
