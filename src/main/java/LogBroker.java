import java.util.Arrays;

/**
 * Four logs on a disk of blocks. What the disk says is never kept twice: records and indices are
 * read from the disk's bytes whenever a call needs them, so that they cannot differ from it.
 */
public final class LogBroker {
    private static final int BLOCK = 32;
    private static final int SLOT = 128;
    private static final int SLOTS = 16;

    private static final int OWNER_AT = 2;
    private static final int GENERATION_AT = 3;
    private static final int BASE_AT = 4;
    private static final int HEADER = 8;

    private static final int INDEX_GAP = 40;
    private static final int BATCH_RECORDS = 4;
    private static final int PRODUCERS = 8;
    private static final int NO_PRODUCER = 255;

    private static final int LOGS = 4;
    private static final int KEEPING_LOGS = 2;
    private static final int GROUP_LOG = 3;
    private static final int GROUPS = 8;

    private static final int MOST_FETCHED = 8;
    private static final int DELETION_AGE = 100;
    private static final int RETAIN_AGE = 1000;
    private static final int RETAIN_BYTES = 240;

    private final Disk disk;
    private final Reader reader;
    private final Log[] logs;
    private final int[] commits;
    private final Records found;
    private final Sieve sieve;
    private final Batch kept;
    private final Page body;
    private final Page field;
    private Batch making;
    private Batch sent;
    private int lookedAt;

    public LogBroker() {
        disk = new Disk();
        reader = new Reader(disk);
        logs = new Log[LOGS];
        for (int i = 0; i < LOGS; i++) {
            logs[i] = new Log(i);
        }
        commits = new int[GROUPS * LOGS];
        found = new Records(MOST_FETCHED);
        sieve = new Sieve();
        kept = new Batch();
        body = new Page(SLOT);
        field = new Page(BLOCK);
        making = new Batch();
        sent = new Batch();
        forget();
    }

    public boolean add(int time, int key, int value) {
        return making.records.put(0, time, key, value, 0);
    }

    public boolean erase(int time, int key) {
        return making.records.put(0, time, key, 0, 1);
    }

    public int produce(int log, int producer, int sequence)
            throws IllegalStateException, IllegalArgumentException, UnsupportedOperationException {
        Batch batch = takeMaking();
        requirePower();
        boolean anonymous = producer == -1;
        if (log < 0 || log >= GROUP_LOG || producer < -1 || producer >= PRODUCERS
                || !anonymous && sequence < 0 || batch.records.count == 0) {
            throw new IllegalArgumentException("no such log, producer or sequence, or an empty batch");
        }
        batch.sign(anonymous ? NO_PRODUCER : producer, anonymous ? 0 : sequence);
        int again = logs[log].offsetOfSame(batch);
        if (again >= 0) {
            return again;
        }
        requireOrder(logs[log], batch);
        int offset = appendOrRefuse(logs[log], batch);
        logs[log].remember(batch, offset);
        return offset;
    }

    public int fetch(int log, int offset, int n)
            throws IllegalStateException, IllegalArgumentException, IndexOutOfBoundsException {
        requirePower();
        if (!isLog(log) || n < 1 || n > MOST_FETCHED) {
            throw new IllegalArgumentException("no such log, or not so many records");
        }
        requireOffset(logs[log], offset);
        found.count = 0;
        lookedAt = 0;
        int first = segmentFor(logs[log], offset);
        for (int i = first; i < logs[log].segments && found.count < n; i++) {
            int slot = logs[log].slots[i];
            fetchFrom(slot, i == first ? entryFor(slot, offset) : HEADER, offset, n);
        }
        return found.count;
    }

    public int fetched(int k, int what) throws IndexOutOfBoundsException {
        if (k < 0 || k >= found.count || what < 0 || what > 4) {
            throw new IndexOutOfBoundsException("nothing such was fetched");
        }
        switch (what) {
            case 0:
                return found.offsets[k];
            case 1:
                return found.times[k];
            case 2:
                return found.keys[k];
            case 3:
                return found.values[k];
            default:
                return found.deletions[k];
        }
    }

    public int since(int log, int time) throws IllegalStateException, IllegalArgumentException {
        requirePower();
        if (!isLog(log)) {
            throw new IllegalArgumentException("no such log");
        }
        for (int i = 0; i < logs[log].segments; i++) {
            int offset = sinceInSlot(logs[log].slots[i], time);
            if (offset >= 0) {
                return offset;
            }
        }
        return -1;
    }

    public void commit(int group, int log, int offset)
            throws IllegalStateException, IllegalArgumentException, IndexOutOfBoundsException,
            UnsupportedOperationException {
        requirePower();
        if (!isCommitted(group, log)) {
            throw new IllegalArgumentException("no such group or log");
        }
        requireOffset(logs[log], offset);
        int key = LOGS * group + log;
        sent.records.count = 0;
        sent.sign(NO_PRODUCER, 0);
        sent.records.put(0, 0, key, offset, 0);
        appendOrRefuse(logs[GROUP_LOG], sent);
        commits[key] = offset;
    }

    public int committed(int group, int log) throws IllegalStateException {
        requirePower();
        return isCommitted(group, log) ? commits[LOGS * group + log] : -1;
    }

    public int clean(int log, int time) throws IllegalStateException, IllegalArgumentException {
        requirePower();
        if (log < KEEPING_LOGS || log >= LOGS) {
            throw new IllegalArgumentException("no compact log");
        }
        Log cleaned = logs[log];
        gatherKeys(cleaned, (long) time - DELETION_AGE);
        int leftOut = 0;
        int index = 0;
        for (int round = 0; round < SLOTS && index < cleaned.segments - 1; round++) {
            int slot = cleaned.slots[index];
            int fewer = siftSlot(slot);
            if (fewer > 0 && body.length == HEADER) {
                writeOwner(slot, 0);
                cleaned.removeSlot(index);
            } else if (fewer > 0 && !moveCleaned(cleaned, index)) {
                break;
            } else {
                index++;
            }
            leftOut += fewer;
        }
        return leftOut;
    }

    public int retain(int log, int time) throws IllegalStateException, IllegalArgumentException {
        requirePower();
        if (log < 0 || log >= KEEPING_LOGS) {
            throw new IllegalArgumentException("no keeping log");
        }
        Log retained = logs[log];
        long limit = (long) time - RETAIN_AGE;
        int gone = 0;
        for (int round = 0; round < SLOTS && firstMayGo(retained, limit); round++) {
            writeOwner(retained.slots[0], 0);
            retained.removeSlot(0);
            retained.start = disk.base(retained.slots[0]);
            gone++;
        }
        return gone;
    }

    public boolean cut(int k) {
        if (k < 0 || !disk.on) {
            return false;
        }
        disk.setCut(k);
        return true;
    }

    public int recover() {
        int before = disk.writes;
        forget();
        disk.switchOn();
        for (int slot = 0; slot < SLOTS; slot++) {
            dropOlderTwin(slot);
        }
        for (int slot = 0; slot < SLOTS; slot++) {
            int owner = disk.owner(slot);
            if (owner >= 1 && owner <= LOGS) {
                placeByBase(logs[owner - 1], slot);
            }
        }
        for (int i = 0; i < LOGS; i++) {
            readLog(logs[i]);
        }
        return disk.writes - before;
    }

    public int log(int log, int what) {
        if (!isLog(log)) {
            return -1;
        }
        Log asked = logs[log];
        switch (what) {
            case 0:
                return asked.start;
            case 1:
                return asked.next;
            case 2:
                return asked.segments;
            case 3:
                return marksFrom(asked, 0);
            case 4:
                return entriesOf(asked);
            case 5:
                return asked.segments == 0 ? -1 : disk.base(asked.active());
            default:
                return -1;
        }
    }

    public int known(int log, int producer, int what) {
        if (!isLog(log) || producer < 0 || producer >= PRODUCERS || !logs[log].knows(producer)) {
            return -1;
        }
        switch (what) {
            case 0:
                return logs[log].sequences[producer];
            case 1:
                return logs[log].counts[producer];
            case 2:
                return logs[log].offsets[producer];
            default:
                return -1;
        }
    }

    public int octet(int block, int k) {
        if (block < 0 || block >= SLOTS * SLOT / BLOCK || k < 0 || k >= BLOCK) {
            return -1;
        }
        return disk.at(block * BLOCK + k);
    }

    public int look(int what) {
        switch (what) {
            case 0:
                return disk.on ? 1 : 0;
            case 1:
                return disk.writes;
            case 2:
                return disk.freeSlots();
            case 3:
                return making.records.count;
            case 4:
                return lookedAt;
            case 5:
                return found.count;
            default:
                return -1;
        }
    }

    private static boolean isLog(int log) {
        return log >= 0 && log < LOGS;
    }

    private static boolean isCommitted(int group, int log) {
        return group >= 0 && group < GROUPS && log >= 0 && log < GROUP_LOG;
    }

    private static int zigzag(int x) {
        return x << 1 ^ x >> 31;
    }

    private static int unzigzag(int x) {
        return x >>> 1 ^ -(x & 1);
    }

    private void requirePower() {
        if (!disk.on) {
            throw new IllegalStateException("the power is off");
        }
    }

    private void requireOffset(Log log, int offset) {
        if (offset < log.start || offset > log.next) {
            throw new IndexOutOfBoundsException("the log has no such offset");
        }
    }

    private void requireOrder(Log log, Batch batch) {
        int producer = batch.producer;
        if (log.knows(producer) && log.sequences[producer] + log.counts[producer] != batch.sequence) {
            throw new UnsupportedOperationException("out of order");
        }
    }

    private void forget() {
        making.records.count = 0;
        found.count = 0;
        lookedAt = 0;
        Arrays.fill(commits, -1);
        for (int i = 0; i < LOGS; i++) {
            logs[i].forgetAll();
        }
    }

    /** The two batches change places, so that a new one is begun whatever becomes of this one. */
    private Batch takeMaking() {
        Batch taken = making;
        making = sent;
        making.records.count = 0;
        sent = taken;
        return taken;
    }

    private int appendOrRefuse(Log log, Batch batch) {
        int offset = log.next;
        batch.records.numberFrom(offset);
        int slot = slotWithPlaceFor(log, batch);
        if (slot < 0) {
            throw new UnsupportedOperationException("no room");
        }
        int mark = disk.mark(slot);
        encodeFor(slot, batch);
        writeBody(slot, mark);
        writeMark(slot, mark + body.length);
        log.next = offset + batch.records.count;
        return offset;
    }

    private int slotWithPlaceFor(Log log, Batch batch) {
        if (log.segments > 0) {
            encodeFor(log.active(), batch);
            if (disk.mark(log.active()) + body.length <= SLOT) {
                return log.active();
            }
        }
        int slot = disk.freeSlot();
        if (slot >= 0) {
            field.putHeader(HEADER, log.number + 1, 0, log.next);
            write(slot * SLOT, field, 0, BLOCK);
            log.insertSlot(log.segments, slot);
        }
        return slot;
    }

    private void encodeFor(int slot, Batch batch) {
        body.wipe();
        batch.encode(body, disk.base(slot));
    }

    private void writeBody(int slot, int mark) {
        int from = 0;
        for (int block = mark / BLOCK; block < SLOT / BLOCK && from < body.length; block++) {
            int place = mark + from;
            int count = Math.min((block + 1) * BLOCK - place, body.length - from);
            write(slot * SLOT + place, body, from, count);
            from += count;
        }
    }

    private void writeMark(int slot, int mark) {
        field.wipe();
        field.putNumber(mark, 2);
        write(slot * SLOT, field, 0, 2);
    }

    private void writeOwner(int slot, int owner) {
        field.wipe();
        field.putNumber(owner, 1);
        write(slot * SLOT + OWNER_AT, field, 0, 1);
    }

    /** Every write goes through here: a cut comes between two writes and never inside one. */
    private void write(int place, Page page, int from, int count) {
        if (disk.cutIsDue()) {
            disk.switchOff();
            forget();
            throw new IllegalStateException("the power went off");
        }
        disk.change(place, page, from, count);
    }

    private int segmentFor(Log log, int offset) {
        int chosen = 0;
        for (int i = 1; i < log.segments; i++) {
            if (disk.base(log.slots[i]) <= offset) {
                chosen = i;
            }
        }
        return chosen;
    }

    private int entryFor(int slot, int offset) {
        int place = HEADER;
        reader.open(slot, HEADER);
        for (int i = 0; i < SLOT && reader.step(); i++) {
            if (reader.entry && reader.batch.records.offsets[0] <= offset) {
                place = reader.begin;
            }
        }
        return place;
    }

    private void fetchFrom(int slot, int place, int offset, int n) {
        reader.open(slot, place);
        Records records = reader.batch.records;
        for (int i = 0; i < SLOT && found.count < n && reader.step(); i++) {
            lookedAt++;
            for (int k = 0; k < records.count && found.count < n; k++) {
                if (records.offsets[k] >= offset) {
                    found.putCopy(records, k);
                }
            }
        }
    }

    private int sinceInSlot(int slot, int time) {
        reader.open(slot, HEADER);
        Records records = reader.batch.records;
        for (int i = 0; i < SLOT && reader.step(); i++) {
            for (int k = 0; k < records.count; k++) {
                if (records.times[k] >= time) {
                    return records.offsets[k];
                }
            }
        }
        return -1;
    }

    private int marksFrom(Log log, int first) {
        int sum = 0;
        for (int i = first; i < log.segments; i++) {
            sum += disk.mark(log.slots[i]);
        }
        return sum;
    }

    private int entriesOf(Log log) {
        int entries = 0;
        for (int s = 0; s < log.segments; s++) {
            reader.open(log.slots[s], HEADER);
            for (int i = 0; i < SLOT && reader.step(); i++) {
                entries += reader.entry ? 1 : 0;
            }
        }
        return entries;
    }

    private boolean firstMayGo(Log log, long limit) {
        return log.segments > 1
                && (greatestTime(log.slots[0]) < limit || marksFrom(log, 1) >= RETAIN_BYTES);
    }

    private long greatestTime(int slot) {
        long greatest = Long.MIN_VALUE;
        reader.open(slot, HEADER);
        Records records = reader.batch.records;
        for (int i = 0; i < SLOT && reader.step(); i++) {
            for (int k = 0; k < records.count; k++) {
                greatest = Math.max(greatest, records.times[k]);
            }
        }
        return greatest;
    }

    private void gatherKeys(Log log, long deletionsBefore) {
        sieve.begin(deletionsBefore);
        Records records = reader.batch.records;
        for (int s = 0; s < log.segments; s++) {
            reader.open(log.slots[s], HEADER);
            for (int i = 0; i < SLOT && reader.step(); i++) {
                for (int k = 0; k < records.count; k++) {
                    sieve.gather(records.keys[k]);
                }
            }
        }
    }

    /** Makes the cleaned segment in the body, not yet on the disk: how many records it has fewer. */
    private int siftSlot(int slot) {
        int base = disk.base(slot);
        int leftOut = 0;
        body.putHeader(0, 0, disk.generation(slot) + 1 & 255, base);
        reader.open(slot, HEADER);
        for (int i = 0; i < SLOT && reader.step(); i++) {
            leftOut += siftBatch(reader.batch);
            if (kept.records.count > 0) {
                kept.encode(body, base);
            }
        }
        body.setNumber(0, body.length, 2);
        return leftOut;
    }

    private int siftBatch(Batch batch) {
        Records records = batch.records;
        kept.records.count = 0;
        kept.sign(batch.producer, batch.sequence);
        for (int k = 0; k < records.count; k++) {
            if (!sieve.leavesOut(records.times[k], records.deletions[k] == 1)) {
                kept.records.putCopy(records, k);
            }
        }
        return records.count - kept.records.count;
    }

    /** The new slot gets its owner before the old one loses it: one of them counts at every cut. */
    private boolean moveCleaned(Log log, int index) {
        int fresh = disk.freeSlot();
        if (fresh < 0 || body.length > SLOT) {
            return false;
        }
        for (int from = 0; from < body.length; from += BLOCK) {
            write(fresh * SLOT + from, body, from, BLOCK);
        }
        writeOwner(fresh, log.number + 1);
        writeOwner(log.slots[index], 0);
        log.slots[index] = fresh;
        return true;
    }

    private void dropOlderTwin(int slot) {
        for (int other = 0; other < SLOTS; other++) {
            if (disk.isSuccessor(slot, other)) {
                writeOwner(other, 0);
            }
        }
    }

    private void placeByBase(Log log, int slot) {
        int index = 0;
        for (int i = 0; i < log.segments; i++) {
            if (disk.base(log.slots[i]) < disk.base(slot)) {
                index = i + 1;
            }
        }
        log.insertSlot(index, slot);
    }

    private void readLog(Log log) {
        for (int s = 0; s < log.segments; s++) {
            log.next = disk.base(log.slots[s]);
            reader.open(log.slots[s], HEADER);
            for (int i = 0; i < SLOT && reader.step(); i++) {
                readBatch(log, reader.batch);
            }
        }
        if (log.number < KEEPING_LOGS && log.segments > 0) {
            log.start = disk.base(log.slots[0]);
        }
    }

    private void readBatch(Log log, Batch batch) {
        Records records = batch.records;
        log.remember(batch, records.offsets[0]);
        for (int k = 0; k < records.count; k++) {
            log.next = records.offsets[k] + 1;
            int key = records.keys[k];
            if (log.number == GROUP_LOG && key >= 0 && key < commits.length) {
                commits[key] = records.values[k];
            }
        }
    }

    /** The bytes, and the power that lets them be changed: all that a cut leaves. */
    private static final class Disk {
        private final int[] bytes = new int[SLOTS * SLOT];
        private boolean on = true;
        private boolean cutSet = false;
        private int writesToCut = 0;
        private int writes = 0;

        int at(int place) {
            return place >= 0 && place < bytes.length ? bytes[place] : 0;
        }

        int mark(int slot) {
            return at(slot * SLOT) << 8 | at(slot * SLOT + 1);
        }

        int owner(int slot) {
            return at(slot * SLOT + OWNER_AT);
        }

        int generation(int slot) {
            return at(slot * SLOT + GENERATION_AT);
        }

        int base(int slot) {
            int place = slot * SLOT + BASE_AT;
            return at(place) << 24 | at(place + 1) << 16 | at(place + 2) << 8 | at(place + 3);
        }

        /** Whether a slot is the same segment as another one, made anew from it by a cleaning. */
        boolean isSuccessor(int slot, int other) {
            return owner(slot) != 0 && owner(slot) == owner(other) && base(slot) == base(other)
                    && generation(slot) == (generation(other) + 1 & 255);
        }

        int freeSlot() {
            for (int slot = 0; slot < SLOTS; slot++) {
                if (owner(slot) == 0) {
                    return slot;
                }
            }
            return -1;
        }

        int freeSlots() {
            int free = 0;
            for (int slot = 0; slot < SLOTS; slot++) {
                free += owner(slot) == 0 ? 1 : 0;
            }
            return free;
        }

        void setCut(int k) {
            cutSet = true;
            writesToCut = k;
        }

        boolean cutIsDue() {
            return cutSet && writesToCut == 0;
        }

        void switchOn() {
            on = true;
            cutSet = false;
        }

        void switchOff() {
            on = false;
        }

        void change(int place, Page page, int from, int count) {
            for (int i = 0; i < count; i++) {
                if (place + i >= 0 && place + i < bytes.length) {
                    bytes[place + i] = page.at(from + i);
                }
            }
            writes++;
            if (cutSet) {
                writesToCut--;
            }
        }
    }

    /** Bytes on their way to the disk; the length counts also those for which there is no place. */
    private static final class Page {
        private final int[] bytes;
        private int length = 0;

        Page(int size) {
            bytes = new int[size];
        }

        int at(int place) {
            return place >= 0 && place < bytes.length ? bytes[place] : 0;
        }

        void wipe() {
            Arrays.fill(bytes, 0);
            length = 0;
        }

        void put(int number) {
            if (length < bytes.length) {
                bytes[length] = number & 255;
            }
            length++;
        }

        void putNumber(int number, int size) {
            for (int i = size - 1; i >= 0; i--) {
                put(number >>> 8 * i);
            }
        }

        void setNumber(int place, int number, int size) {
            for (int i = 0; i < size; i++) {
                if (place + i >= 0 && place + i < bytes.length) {
                    bytes[place + i] = number >>> 8 * (size - 1 - i) & 255;
                }
            }
        }

        void putV(int x) {
            int rest = x;
            for (int i = 0; i < 4 && rest >>> 7 != 0; i++) {
                put(rest & 127 | 128);
                rest >>>= 7;
            }
            put(rest);
        }

        void putHeader(int mark, int owner, int generation, int base) {
            wipe();
            putNumber(mark, 2);
            put(owner);
            put(generation);
            putNumber(base, 4);
        }
    }

    /** Records in rows that are made once and used again. */
    private static final class Records {
        private final int[] offsets;
        private final int[] times;
        private final int[] keys;
        private final int[] values;
        private final int[] deletions;
        private int count = 0;

        Records(int most) {
            offsets = new int[most];
            times = new int[most];
            keys = new int[most];
            values = new int[most];
            deletions = new int[most];
        }

        boolean put(int offset, int time, int key, int value, int deletion) {
            if (count >= offsets.length) {
                return false;
            }
            offsets[count] = offset;
            times[count] = time;
            keys[count] = key;
            values[count] = value;
            deletions[count] = deletion;
            count++;
            return true;
        }

        void putCopy(Records from, int k) {
            if (k >= 0 && k < from.count) {
                put(from.offsets[k], from.times[k], from.keys[k], from.values[k], from.deletions[k]);
            }
        }

        void numberFrom(int offset) {
            for (int k = 0; k < count; k++) {
                offsets[k] = offset + k;
            }
        }
    }

    private static final class Batch {
        private final Records records = new Records(BATCH_RECORDS);
        private int producer = NO_PRODUCER;
        private int sequence = 0;

        void sign(int byProducer, int atSequence) {
            producer = byProducer;
            sequence = atSequence;
        }

        void encode(Page page, int base) {
            int begin = page.length;
            page.put(0);
            page.putV(records.offsets[0] - base);
            page.putV(zigzag(records.times[0]));
            page.put(producer);
            page.putV(sequence);
            page.put(records.count);
            for (int k = 0; k < records.count; k++) {
                page.putV(records.offsets[k] - records.offsets[0]);
                page.putV(zigzag(records.times[k] - records.times[0]));
                page.putV(zigzag(records.keys[k]));
                page.put(records.deletions[k]);
                if (records.deletions[k] == 0) {
                    page.putV(zigzag(records.values[k]));
                }
            }
            page.setNumber(begin, page.length - begin - 1, 1);
        }
    }

    /** Goes through the batches of a slot, and tells which of them have an entry in its index. */
    private static final class Reader {
        private final Disk disk;
        private final Batch batch = new Batch();
        private int slotPlace = 0;
        private int base = 0;
        private int mark = 0;
        private int begin = 0;
        private int place = 0;
        private int latestEntry = 0;
        private boolean entry = false;

        Reader(Disk from) {
            disk = from;
        }

        void open(int slot, int from) {
            slotPlace = slot * SLOT;
            base = disk.base(slot);
            mark = Math.min(disk.mark(slot), SLOT);
            place = from;
            // as if one with an entry stood a whole gap before: so the first batch gets one
            latestEntry = from - INDEX_GAP;
        }

        boolean step() {
            if (place >= mark) {
                return false;
            }
            begin = place;
            int end = begin + 1 + nextByte();
            entry = begin - latestEntry >= INDEX_GAP;
            if (entry) {
                latestEntry = begin;
            }
            int offset = base + nextV();
            int time = unzigzag(nextV());
            int producer = nextByte();
            batch.sign(producer, nextV());
            batch.records.count = 0;
            int count = Math.min(nextByte(), BATCH_RECORDS);
            for (int k = 0; k < count; k++) {
                readRecord(offset, time);
            }
            place = end;
            return true;
        }

        private void readRecord(int firstOffset, int firstTime) {
            int offset = firstOffset + nextV();
            int time = firstTime + unzigzag(nextV());
            int key = unzigzag(nextV());
            int deletion = nextByte();
            int value = deletion == 0 ? unzigzag(nextV()) : 0;
            batch.records.put(offset, time, key, value, deletion);
        }

        private int nextByte() {
            int next = disk.at(slotPlace + place);
            place++;
            return next;
        }

        private int nextV() {
            int x = 0;
            for (int shift = 0; shift < 35; shift += 7) {
                int next = nextByte();
                x |= (next & 127) << shift;
                if (next < 128) {
                    break;
                }
            }
            return x;
        }
    }

    /** What is known of one log: where its segments are, and the latest batch of each producer. */
    private static final class Log {
        private final int number;
        private final int[] slots = new int[SLOTS];
        private final int[] sequences = new int[PRODUCERS];
        private final int[] counts = new int[PRODUCERS];
        private final int[] offsets = new int[PRODUCERS];
        private int segments = 0;
        private int start = 0;
        private int next = 0;

        Log(int number) {
            this.number = number;
        }

        void forgetAll() {
            segments = 0;
            start = 0;
            next = 0;
            Arrays.fill(counts, 0);
        }

        int active() {
            return segments > 0 ? slots[segments - 1] : -1;
        }

        void insertSlot(int index, int slot) {
            if (segments >= SLOTS || index < 0 || index > segments) {
                return;
            }
            for (int i = segments; i > index; i--) {
                slots[i] = slots[i - 1];
            }
            slots[index] = slot;
            segments++;
        }

        void removeSlot(int index) {
            if (index < 0 || index >= segments) {
                return;
            }
            for (int i = index + 1; i < segments; i++) {
                slots[i - 1] = slots[i];
            }
            segments--;
        }

        boolean knows(int producer) {
            return producer >= 0 && producer < PRODUCERS && counts[producer] > 0;
        }

        /** Where the batch stands if it is the latest one of its producer again, else -1. */
        int offsetOfSame(Batch batch) {
            int producer = batch.producer;
            boolean same = knows(producer) && sequences[producer] == batch.sequence
                    && counts[producer] == batch.records.count;
            return same ? offsets[producer] : -1;
        }

        /** A batch without producer has no place here, and is passed over. */
        void remember(Batch batch, int offset) {
            int producer = batch.producer;
            if (producer >= 0 && producer < PRODUCERS) {
                sequences[producer] = batch.sequence;
                counts[producer] = batch.records.count;
                offsets[producer] = offset;
            }
        }
    }

    /** Tells what a cleaning leaves out, when it is asked for each record in the log's order. */
    private static final class Sieve {
        // a record has four bytes or more, so a slot has fewer than 32 of them
        private final int[] keys = new int[SLOTS * 32];
        private int count = 0;
        private int asked = 0;
        private long deletionsBefore = 0;

        void begin(long limit) {
            count = 0;
            asked = 0;
            deletionsBefore = limit;
        }

        void gather(int key) {
            if (count < keys.length) {
                keys[count] = key;
                count++;
            }
        }

        boolean leavesOut(int time, boolean deletion) {
            int index = asked;
            asked++;
            return deletion && time < deletionsBefore || hasLater(index);
        }

        private boolean hasLater(int index) {
            if (index < 0 || index >= count) {
                return false;
            }
            for (int i = index + 1; i < count; i++) {
                if (keys[i] == keys[index]) {
                    return true;
                }
            }
            return false;
        }
    }
}
