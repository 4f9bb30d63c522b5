import java.util.Arrays;

/** The numbers on the disk (Terms): V, Z, MARK and BASE at every size where their bytes change. */
public final class NumberTest {
    private static final int MIN = Integer.MIN_VALUE;
    private static final int MAX = Integer.MAX_VALUE;

    /** {x, bytes of V(x)}: the least and the greatest of each length. */
    private static final int[][] V = {
        {0, 0}, {1, 1}, {127, 127},
        {128, 128, 1}, {129, 129, 1}, {16383, 255, 127},
        {16384, 128, 128, 1}, {2097151, 255, 255, 127},
        {2097152, 128, 128, 128, 1}, {268435455, 255, 255, 255, 127},
        {268435456, 128, 128, 128, 128, 1}, {MAX, 255, 255, 255, 255, 7},
    };

    /** {x, bytes of Z(x)}: the outermost of each length, on both sides of 0. */
    private static final int[][] Z = {
        {0, 0}, {-1, 1}, {1, 2}, {63, 126}, {-64, 127},
        {64, 128, 1}, {-65, 129, 1}, {8191, 254, 127}, {-8192, 255, 127},
        {8192, 128, 128, 1}, {-8193, 129, 128, 1}, {1048575, 254, 255, 127}, {-1048576, 255, 255, 127},
        {1048576, 128, 128, 128, 1}, {-1048577, 129, 128, 128, 1},
        {134217727, 254, 255, 255, 127}, {-134217728, 255, 255, 255, 127},
        {134217728, 128, 128, 128, 128, 1}, {-134217729, 129, 128, 128, 128, 1},
        {MAX, 254, 255, 255, 255, 15}, {MIN, 255, 255, 255, 255, 15},
    };

    public static void main(String[] args) {
        sequences();
        timesOfTheFirst();
        timesBehindTheFirst();
        keys();
        values();
        timesThatWrap();
        markOfAFullSlot();
        baseOfMoreThanOneByte();
        theGreatestBatch();
        Check.finish("NumberTest");
    }

    private static int[] bytesOf(int[] row) {
        return Arrays.copyOfRange(row, 1, row.length);
    }

    private static int[] join(int[]... parts) {
        return Arrays.stream(parts).flatMapToInt(Arrays::stream).toArray();
    }

    private static int[] of(int... bytes) {
        return bytes;
    }

    /** The batch at the begin of slot 0 is these bytes, with their number before them, and MARK is behind it. */
    private static void dueBatch(String what, LogBroker x, int[]... parts) {
        int[] bytes = join(parts);
        Check.dueBytes(what, x, 0, 8, join(of(bytes.length), bytes));
        Check.due(what + ", MARK", 9 + bytes.length, () -> x.octet(0, 1));
    }

    /** "V(x) of an int x: its lowest 7 bits, with 128 added if x >>> 7 is not 0, and V(x >>> 7) behind it then." */
    private static void sequences() {
        for (int[] row : V) {
            LogBroker x = new LogBroker();
            x.erase(0, 0);
            x.produce(0, 0, row[0]);
            dueBatch("sequence " + row[0], x, of(0, 0, 0), bytesOf(row), of(1, 0, 0, 0, 1));
            x.recover();
            Check.due("read again", row[0], () -> x.known(0, 0, 0));
        }
    }

    /** "Z(x) is V(x << 1 ^ x >> 31)." "Z(time of the first)" */
    private static void timesOfTheFirst() {
        for (int[] row : Z) {
            LogBroker x = new LogBroker();
            x.erase(row[0], 0);
            x.produce(0, 0, 0);
            dueBatch("time " + row[0], x, of(0), bytesOf(row), of(0, 0, 1, 0, 0, 0, 1));
            x.fetch(0, 0, 1);
            Check.due("read again", row[0], () -> x.fetched(0, 1));
        }
    }

    /** "V(its offset - that of the first), Z(its time - that of the first, wrapping)" */
    private static void timesBehindTheFirst() {
        for (int[] row : Z) {
            LogBroker x = new LogBroker();
            x.erase(0, 0);
            x.erase(row[0], 0);
            x.produce(0, 0, 0);
            dueBatch("second time " + row[0], x, of(0, 0, 0, 0, 2, 0, 0, 0, 1, 1), bytesOf(row), of(0, 1));
            x.fetch(0, 0, 2);
            Check.due("read again", row[0], () -> x.fetched(1, 1));
        }
    }

    /** "Z(key), 1 for a DELETION" */
    private static void keys() {
        for (int[] row : Z) {
            LogBroker x = new LogBroker();
            x.erase(0, row[0]);
            x.produce(0, 7, 0);
            dueBatch("key " + row[0], x, of(0, 0, 7, 0, 1, 0, 0), bytesOf(row), of(1));
            x.fetch(0, 0, 1);
            Check.due("read again", row[0], () -> x.fetched(0, 2));
        }
    }

    /** "else 0 and Z(value)" */
    private static void values() {
        for (int[] row : Z) {
            LogBroker x = new LogBroker();
            x.add(0, 0, row[0]);
            x.produce(0, -1, 0);
            dueBatch("value " + row[0], x, of(0, 0, 255, 0, 1, 0, 0, 0, 0), bytesOf(row));
            x.fetch(0, 0, 1);
            Check.due("read again", row[0], () -> x.fetched(0, 3));
        }
    }

    /** "Z(its time - that of the first, wrapping)": {first, second, bytes of the difference}. */
    private static void timesThatWrap() {
        int[][] rows = {{MAX, MIN, 2}, {MIN, MAX, 1}, {MIN, 0, 255, 255, 255, 255, 15}, {-1, MAX, 255, 255, 255, 255, 15},
            {1, MIN, 254, 255, 255, 255, 15}, {-2, MAX, 253, 255, 255, 255, 15}};
        for (int[] row : rows) {
            LogBroker x = new LogBroker();
            x.erase(row[0], 0);
            x.erase(row[1], 0);
            x.produce(1, -1, 0);
            int first = row[0] == 1 || row[0] == -1 || row[0] == -2 ? 1 : 5;
            Check.dueBytes("from " + row[0] + " to " + row[1], x, 0, 8 + 5 + first + 5,
                    Arrays.copyOfRange(row, 2, row.length));
            x.fetch(1, 0, 2);
            Check.due("first time", row[0], () -> x.fetched(0, 1));
            Check.due("second time", row[1], () -> x.fetched(1, 1));
            x.recover();
            x.fetch(1, 0, 2);
            Check.due("second time, read again", row[1], () -> x.fetched(1, 1));
        }
    }

    /** "MARK (2 bytes, the higher first; all numbers so): how many bytes of the slot count" */
    private static void markOfAFullSlot() {
        LogBroker x = new LogBroker();
        for (int i = 0; i < 12; i++) {
            x.erase(0, 0);
            x.produce(0, -1, 0);
        }
        Check.dueBytes("MARK of 128", x, 0, 0, 0, 128);
        Check.due("one segment", 1, () -> x.log(0, 2));
        Check.due("twelve batches", 8, () -> x.fetch(0, 0, 8));
        x.recover();
        Check.same("read again", "0 12 1 128 3 0", Check.logOf(x, 0));
    }

    /** "BASE (4 bytes)", the higher first: five batches of four records to a slot, so slot 13 has BASE 260. */
    private static void baseOfMoreThanOneByte() {
        LogBroker x = new LogBroker();
        for (int i = 0; i < 66; i++) {
            x.erase(0, 0);
            x.erase(0, 0);
            x.erase(0, 0);
            x.erase(0, 0);
            x.produce(1, -1, 0);
        }
        Check.dueBytes("header of slot 12", x, 48, 0, 0, 118, 2, 0, 0, 0, 0, 240);
        Check.dueBytes("header of slot 13", x, 52, 0, 0, 30, 2, 0, 0, 0, 1, 4);
        Check.due("BASE", 260, () -> x.log(1, 5));
        Check.due("recover", 0, () -> x.recover());
        Check.same("read again", "0 264 14 1564 40 260", Check.logOf(x, 1));
        Check.due("fetch", 8, () -> x.fetch(1, 255, 8));
        Check.same("found", "255 256 257 258 259 260 261 262", Check.offsets(x));
    }

    /**
     * "A BATCH of 1 to 4 records"
     * A batch with all numbers of five bytes has 78 bytes, and is fine.
     */
    private static void theGreatestBatch() {
        LogBroker x = new LogBroker();
        x.add(MIN, MIN, MAX);
        for (int i = 1; i < 4; i++) {
            x.add(0, MAX - i, MIN + i);
        }
        Check.due("produce", 0, () -> x.produce(2, 5, MAX));
        Check.due("how many bytes follow", 77, () -> x.octet(0, 8));
        Check.due("MARK", 86, () -> x.octet(0, 1));
        Check.due("fetch", 4, () -> x.fetch(2, 0, 8));
        Check.due("time", 0, () -> x.fetched(3, 1));
        Check.due("key", MAX - 3, () -> x.fetched(3, 2));
        Check.due("value", MIN + 3, () -> x.fetched(3, 3));
        x.recover();
        Check.same("read again", "2147483647 4 0", Check.knownOf(x, 2, 5));
        Check.due("fetch again", 4, () -> x.fetch(2, 0, 8));
        Check.due("value again", MIN + 3, () -> x.fetched(3, 3));
    }
}
