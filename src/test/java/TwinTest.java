import java.lang.reflect.Field;

/**
 * GENERATION (Terms): a segment that was made anew, and its older twin at a recovery. A segment cannot be cleaned
 * 255 times within 512 calls, so where the numbers wrap around a test writes GENERATION onto the disk itself.
 */
public final class TwinTest {
    public static void main(String[] args) throws ReflectiveOperationException {
        oneGreaterAtEachCleaning();
        behind255Comes0();
        theNewerTwinCounts();
        theNewerTwinIsInALowerSlot();
        zeroIsOneGreaterThan255();
        zeroInALowerSlot();
        sameBaseInAnotherLog();
        theRecoveryIsNotCut();
        ownersThatAreNoLog();
        baseOfFourBytes();
        Check.finish("TwinTest");
    }

    /** Writes a byte of the disk past the class: it counts from the next recovery on. */
    private static void poke(LogBroker x, int block, int k, int value) throws ReflectiveOperationException {
        Field disk = LogBroker.class.getDeclaredField("disk");
        disk.setAccessible(true);
        Field bytes = disk.get(x).getClass().getDeclaredField("bytes");
        bytes.setAccessible(true);
        ((int[]) bytes.get(disk.get(x)))[32 * block + k] = value;
        Check.due("the byte", value, () -> x.octet(block, k));
    }

    /** Log 2 in slots 0 and 1: a cleaning leaves out 5 of the 7 records of the first, and takes slot 2. */
    private static LogBroker toBeCleaned() {
        LogBroker x = new LogBroker();
        fill(x);
        return x;
    }

    /** The same in slots 1 and 2; slot 0 was let go, so the cleaning takes that. */
    private static LogBroker withALowerSlotFree() {
        LogBroker x = new LogBroker();
        Check.sendBig(x, 0);
        Check.sendBig(x, 0);
        Check.send(x, 2, 0, 1, 0, 0, 2, 0, 0, 3, 0);
        Check.sendBig(x, 2);
        Check.sendBig(x, 2);
        Check.sendBig(x, 0);
        Check.send(x, 2, 0, 1, 1);
        x.retain(0, 5000);
        Check.due("slot 0 is free", 0, () -> x.octet(0, 2));
        Check.same("log 2", "0 12 2 164 3 7", Check.logOf(x, 2));
        return x;
    }

    private static void fill(LogBroker x) {
        Check.send(x, 2, 0, 1, 0, 0, 2, 0, 0, 3, 0);
        Check.sendBig(x, 2);
        Check.sendBig(x, 2);
        Check.send(x, 2, 0, 1, 1);
        Check.same("log 2", "0 12 2 164 3 7", Check.logOf(x, 2));
    }

    /** "GENERATION one greater" */
    private static void oneGreaterAtEachCleaning() {
        LogBroker x = toBeCleaned();
        Check.due("at first", 0, () -> x.octet(0, 3));
        Check.due("clean", 5, () -> x.clean(2, 0));
        Check.dueBytes("then, in slot 2", x, 8, 0, 0, 24, 3, 1);
        Check.send(x, 2, 0, 2, 2);
        Check.due("clean again", 1, () -> x.clean(2, 0));
        Check.dueBytes("then, in slot 0", x, 0, 0, 0, 19, 3, 2);
        Check.due("nothing to clean", 0, () -> x.clean(2, 0));
        Check.dueBytes("it stays", x, 0, 0, 0, 19, 3, 2);
    }

    /** "(behind 255 comes 0)" */
    private static void behind255Comes0() throws ReflectiveOperationException {
        int[][] due = {{253, 254}, {254, 255}, {255, 0}};
        for (int[] d : due) {
            LogBroker x = toBeCleaned();
            poke(x, 0, 3, d[0]);
            Check.due("read again", 0, () -> x.recover());
            Check.due("clean", 5, () -> x.clean(2, 0));
            Check.dueBytes("behind " + d[0], x, 8, 0, 0, 24, 3, d[1]);
            Check.due("the old one keeps its own", d[0], () -> x.octet(0, 3));
        }
    }

    /** Behind a cut before the old slot's OWNER becomes 0: the new slot counts, the recovery lets the old one go. */
    private static void dueNewer(String what, LogBroker x, int oldSlot, int newSlot) {
        x.cut(2);
        Check.due(what + ", clean", Check.ISE, () -> x.clean(2, 0));
        Check.due("old OWNER", 3, () -> x.octet(4 * oldSlot, 2));
        Check.due("new OWNER", 3, () -> x.octet(4 * newSlot, 2));
        int writes = x.look(1);
        int free = x.look(2);
        Check.due("writes of the recovery", 1, () -> x.recover());
        Check.due("they count", writes + 1, () -> x.look(1));
        Check.due("a slot is free", free + 1, () -> x.look(2));
        Check.due("old OWNER then", 0, () -> x.octet(4 * oldSlot, 2));
        Check.due("new OWNER then", 3, () -> x.octet(4 * newSlot, 2));
        Check.same("log 2 then", "0 12 2 101 3 7", Check.logOf(x, 2));
        Check.due("fetch", 7, () -> x.fetch(2, 0, 8));
        Check.same("left", "1 2 7 8 9 10 11", Check.offsets(x));
        Check.due("nothing more", 0, () -> x.recover());
    }

    /**
     * "of two with the same OWNER and BASE that one counts whose GENERATION is one greater than the other's ...
     * and the other one's OWNER becomes 0 by a write"
     */
    private static void theNewerTwinCounts() {
        dueNewer("behind", toBeCleaned(), 0, 2);
    }

    /** "that one counts whose GENERATION is one greater": also where its slot comes first. */
    private static void theNewerTwinIsInALowerSlot() {
        dueNewer("before", withALowerSlotFree(), 1, 0);
    }

    /** "(0 is one greater than 255)" */
    private static void zeroIsOneGreaterThan255() throws ReflectiveOperationException {
        LogBroker x = toBeCleaned();
        poke(x, 0, 3, 255);
        Check.due("read again", 0, () -> x.recover());
        dueNewer("255 before 0", x, 0, 2);
        Check.due("GENERATION", 0, () -> x.octet(8, 3));
    }

    /** "(0 is one greater than 255)": also where its slot comes first. */
    private static void zeroInALowerSlot() throws ReflectiveOperationException {
        LogBroker x = withALowerSlotFree();
        poke(x, 4, 3, 255);
        Check.due("read again", 0, () -> x.recover());
        dueNewer("0 before 255", x, 1, 0);
        Check.due("GENERATION", 0, () -> x.octet(0, 3));
    }

    /** "of two with the same OWNER and BASE": segments of two logs are no twins, whatever their GENERATION. */
    private static void sameBaseInAnotherLog() throws ReflectiveOperationException {
        LogBroker x = new LogBroker();
        Check.send(x, 0, 0, 0, 0);
        Check.send(x, 1, 0, 0, 0);
        poke(x, 4, 3, 1);
        Check.due("recover", 0, () -> x.recover());
        Check.same("log 0", "0 1 1 19 1 0", Check.logOf(x, 0));
        Check.same("log 1", "0 1 1 19 1 0", Check.logOf(x, 1));
    }

    /** "and the cut too": the cut of the call before does not meet the writes of the recovery. */
    private static void theRecoveryIsNotCut() {
        LogBroker x = toBeCleaned();
        x.cut(2);
        Check.due("clean", Check.ISE, () -> x.clean(2, 0));
        Check.due("a cut is refused", false, () -> x.cut(0));
        Check.due("recover", 1, () -> x.recover());
        Check.due("the power is on", 1, () -> x.look(0));
        Check.due("and stays on", 12, () -> Check.send(x, 2, 0, 0, 0));
    }

    /** "a slot with an OWNER 1 .. 4 is a segment" */
    private static void ownersThatAreNoLog() throws ReflectiveOperationException {
        for (int owner : new int[] {5, 255}) {
            LogBroker x = new LogBroker();
            Check.send(x, 0, 0, 0, 0);
            poke(x, 0, 2, owner);
            Check.due("recover", 0, () -> x.recover());
            for (int log = 0; log < 4; log++) {
                Check.same("log " + log, "0 0 0 0 0 -1", Check.logOf(x, log));
            }
            Check.due("not free", 15, () -> x.look(2));
        }
    }

    /** "BASE (4 bytes)", the higher first: no run of calls gets so far, so it is written onto the disk here. */
    private static void baseOfFourBytes() throws ReflectiveOperationException {
        LogBroker x = new LogBroker();
        Check.send(x, 0, 1, 2, 3, 4, 5, 6);
        int[] base = {1, 2, 3, 4};
        for (int i = 0; i < 4; i++) {
            poke(x, 0, 4 + i, base[i]);
        }
        Check.due("recover", 0, () -> x.recover());
        Check.same("log", "16909060 16909062 1 24 1 16909060", Check.logOf(x, 0));
        Check.due("fetch", 1, () -> x.fetch(0, 16909061, 8));
        Check.due("offset", 16909061, () -> x.fetched(0, 0));
        Check.due("below START", Check.IOOBE, () -> x.fetch(0, 0, 8));
        for (int i = 0; i < 5; i++) {
            Check.sendBig(x, 0);
        }
        Check.dueBytes("BASE of the next", x, 4, 0, 0, 124, 1, 0, 1, 2, 3, 10);
    }
}
