import java.io.ByteArrayOutputStream;
import java.util.ArrayList;
import java.util.List;
import java.util.Map;
import java.util.TreeMap;

/**
 * The document once more, in another way: segments, batches and indices are objects that live beside the
 * disk, and are made from it only by a recovery. It answers as the class must, for the same calls.
 */
final class Model {
    static final class Rec {
        int offset;
        int time;
        int key;
        Integer value;

        Rec(int offset, int time, int key, Integer value) {
            this.offset = offset;
            this.time = time;
            this.key = key;
            this.value = value;
        }
    }

    static final class Bat {
        List<Rec> recs = new ArrayList<>();
        int producer;
        int sequence;
        int begin;
    }

    static final class Seg {
        int slot;
        int generation;
        int base;
        int mark = 8;
        List<Bat> bats = new ArrayList<>();
        List<Bat> index = new ArrayList<>();

        void take(Bat b, int size) {
            b.begin = mark;
            if (index.isEmpty() || b.begin - index.get(index.size() - 1).begin >= 40) {
                index.add(b);
            }
            bats.add(b);
            mark += size;
        }
    }

    final byte[][] disk = new byte[64][32];
    final Map<String, Integer> events = new TreeMap<>();
    boolean on = true;
    long cutAfter = -1;
    int writes;
    List<List<Seg>> logs;
    int[] next;
    int[] start;
    Map<Integer, int[]> latest;
    Map<Integer, Integer> commits;
    List<Rec> making;
    List<Rec> fetched;
    int looked;

    Model() {
        forget();
    }

    void saw(String event) {
        events.merge(event, 1, Integer::sum);
    }

    private void forget() {
        logs = new ArrayList<>();
        for (int i = 0; i < 4; i++) {
            logs.add(new ArrayList<>());
        }
        next = new int[4];
        start = new int[4];
        latest = new TreeMap<>();
        commits = new TreeMap<>();
        making = new ArrayList<>();
        fetched = new ArrayList<>();
        looked = 0;
    }

    private void write(int slot, int from, byte[] bytes, String what) {
        if (cutAfter == 0) {
            on = false;
            forget();
            saw("cut at " + what);
            throw new IllegalStateException();
        }
        if (cutAfter > 0) {
            cutAfter--;
        }
        writes++;
        for (int i = 0; i < bytes.length; i++) {
            int place = from + i;
            if (place / 32 != from / 32) {
                throw new AssertionError("a write of two blocks");
            }
            disk[4 * slot + place / 32][place % 32] = bytes[i];
        }
    }

    private static void v(ByteArrayOutputStream out, int x) {
        if (x >>> 7 != 0) {
            out.write((x & 127) + 128);
            v(out, x >>> 7);
        } else {
            out.write(x);
        }
    }

    private static void z(ByteArrayOutputStream out, int x) {
        v(out, (x << 1) ^ (x >> 31));
    }

    private static byte[] bytes(Bat b, int base) {
        ByteArrayOutputStream out = new ByteArrayOutputStream();
        Rec first = b.recs.get(0);
        v(out, first.offset - base);
        z(out, first.time);
        out.write(b.producer < 0 ? 255 : b.producer);
        v(out, b.producer < 0 ? 0 : b.sequence);
        out.write(b.recs.size());
        for (Rec r : b.recs) {
            v(out, r.offset - first.offset);
            z(out, r.time - first.time);
            z(out, r.key);
            out.write(r.value == null ? 1 : 0);
            if (r.value != null) {
                z(out, r.value);
            }
        }
        byte[] rest = out.toByteArray();
        byte[] all = new byte[rest.length + 1];
        all[0] = (byte) rest.length;
        System.arraycopy(rest, 0, all, 1, rest.length);
        return all;
    }

    private static byte[] header(int mark, int owner, int generation, int base) {
        return new byte[] {(byte) (mark >> 8), (byte) mark, (byte) owner, (byte) generation, (byte) (base >> 24),
            (byte) (base >> 16), (byte) (base >> 8), (byte) base};
    }

    private int free() {
        for (int slot = 0; slot < 16; slot++) {
            if (disk[4 * slot][2] == 0) {
                return slot;
            }
        }
        return -1;
    }

    private static byte[] part(byte[] all, int from, int to) {
        return java.util.Arrays.copyOfRange(all, from, to);
    }

    private int append(int log, Bat b) {
        List<Seg> segs = logs.get(log);
        int first = next[log];
        for (int i = 0; i < b.recs.size(); i++) {
            b.recs.get(i).offset = first + i;
        }
        Seg seg = segs.isEmpty() ? null : segs.get(segs.size() - 1);
        if (seg == null || seg.mark + bytes(b, seg.base).length > 128) {
            seg = new Seg();
            seg.slot = free();
            seg.base = first;
            if (seg.slot < 0) {
                saw("append without room");
                throw new UnsupportedOperationException();
            }
            byte[] block = new byte[32];
            System.arraycopy(header(8, log + 1, 0, first), 0, block, 0, 8);
            write(seg.slot, 0, block, "new segment");
            segs.add(seg);
        }
        byte[] all = bytes(b, seg.base);
        int done = 0;
        while (done < all.length) {
            int place = seg.mark + done;
            int to = Math.min(all.length, done + 32 - place % 32);
            write(seg.slot, place, part(all, done, to), "batch");
            done = to;
        }
        int mark = seg.mark + all.length;
        write(seg.slot, 0, new byte[] {(byte) (mark >> 8), (byte) mark}, "mark");
        seg.take(b, all.length);
        if (mark == 128) {
            saw("full slot");
        }
        next[log] = first + b.recs.size();
        return first;
    }

    boolean add(int time, int key, Integer value) {
        if (making.size() == 4) {
            return false;
        }
        making.add(new Rec(0, time, key, value));
        return true;
    }

    int produce(int log, int producer, int sequence) {
        Bat b = new Bat();
        b.recs = making;
        b.producer = producer;
        b.sequence = sequence;
        making = new ArrayList<>();
        power();
        if (log < 0 || log > 2 || producer < -1 || producer > 7 || producer >= 0 && sequence < 0 || b.recs.isEmpty()) {
            throw new IllegalArgumentException();
        }
        if (producer < 0) {
            return append(log, b);
        }
        int[] known = latest.get(log * 8 + producer);
        if (known != null && known[0] == sequence && known[1] == b.recs.size()) {
            saw("same again");
            return known[2];
        }
        if (known != null && (long) known[0] + known[1] != sequence) {
            saw("out of order");
            throw new UnsupportedOperationException();
        }
        int offset = append(log, b);
        latest.put(log * 8 + producer, new int[] {sequence, b.recs.size(), offset});
        return offset;
    }

    private void power() {
        if (!on) {
            throw new IllegalStateException();
        }
    }

    private void range(int log, int offset) {
        if (offset < start[log] || offset > next[log]) {
            throw new IndexOutOfBoundsException();
        }
    }

    int fetch(int log, int offset, int n) {
        power();
        if (log < 0 || log > 3 || n < 1 || n > 8) {
            throw new IllegalArgumentException();
        }
        range(log, offset);
        fetched = new ArrayList<>();
        looked = 0;
        List<Seg> segs = logs.get(log);
        int s = segs.size() - 1;
        while (s > 0 && segs.get(s).base > offset) {
            s--;
        }
        if (s < 0) {
            return 0;
        }
        int from = 0;
        for (Bat b : segs.get(s).index) {
            if (b.recs.get(0).offset <= offset) {
                from = segs.get(s).bats.indexOf(b);
            }
        }
        for (; s < segs.size(); s++) {
            List<Bat> bats = segs.get(s).bats;
            for (Bat b : bats.subList(from, bats.size())) {
                looked++;
                for (Rec r : b.recs) {
                    if (r.offset >= offset) {
                        fetched.add(r);
                        if (fetched.size() == n) {
                            return n;
                        }
                    }
                }
            }
            from = 0;
            saw("fetch through segments");
        }
        return fetched.size();
    }

    int fetched(int k, int what) {
        if (k < 0 || k >= fetched.size() || what < 0 || what > 4) {
            throw new IndexOutOfBoundsException();
        }
        Rec r = fetched.get(k);
        int value = r.value == null ? 0 : r.value;
        return new int[] {r.offset, r.time, r.key, value, r.value == null ? 1 : 0}[what];
    }

    private List<Rec> records(int log) {
        List<Rec> all = new ArrayList<>();
        for (Seg seg : logs.get(log)) {
            for (Bat b : seg.bats) {
                all.addAll(b.recs);
            }
        }
        return all;
    }

    int since(int log, int time) {
        power();
        if (log < 0 || log > 3) {
            throw new IllegalArgumentException();
        }
        for (Rec r : records(log)) {
            if (r.time >= time) {
                return r.offset;
            }
        }
        return -1;
    }

    void commit(int group, int log, int offset) {
        power();
        if (group < 0 || group > 7 || log < 0 || log > 2) {
            throw new IllegalArgumentException();
        }
        range(log, offset);
        Bat b = new Bat();
        b.producer = -1;
        b.recs.add(new Rec(0, 0, 4 * group + log, offset));
        append(3, b);
        commits.put(4 * group + log, offset);
    }

    int committed(int group, int log) {
        power();
        if (group < 0 || group > 7 || log < 0 || log > 2) {
            return -1;
        }
        return commits.getOrDefault(4 * group + log, -1);
    }

    int clean(int log, int time) {
        power();
        if (log != 2 && log != 3) {
            throw new IllegalArgumentException();
        }
        int out = 0;
        List<Seg> segs = logs.get(log);
        for (Seg old : new ArrayList<>(segs.subList(0, Math.max(0, segs.size() - 1)))) {
            List<Rec> all = records(log);
            Seg anew = new Seg();
            anew.base = old.base;
            anew.generation = (old.generation + 1) % 256;
            ByteArrayOutputStream body = new ByteArrayOutputStream();
            int fewer = 0;
            for (Bat b : old.bats) {
                Bat c = new Bat();
                c.producer = b.producer;
                c.sequence = b.sequence;
                for (Rec r : b.recs) {
                    boolean later = all.stream().anyMatch(o -> o.key == r.key && o.offset > r.offset);
                    if (!later && (r.value != null || r.time >= time - 100L)) {
                        c.recs.add(r);
                    }
                }
                fewer += b.recs.size() - c.recs.size();
                if (!c.recs.isEmpty()) {
                    byte[] bytes = bytes(c, old.base);
                    body.writeBytes(bytes);
                    anew.take(c, bytes.length);
                }
            }
            if (fewer == 0) {
                saw("segment not changed");
                continue;
            }
            if (anew.bats.isEmpty()) {
                saw("segment dropped");
                write(old.slot, 2, new byte[1], "dropping");
                segs.remove(old);
            } else {
                anew.slot = free();
                if (anew.slot < 0 || anew.mark > 128) {
                    saw(anew.slot < 0 ? "clean without room" : "clean with too many bytes");
                    return out;
                }
                moveTo(anew, old, log, body.toByteArray());
                segs.set(segs.indexOf(old), anew);
                saw("segment moved");
            }
            out += fewer;
        }
        return out;
    }

    private void moveTo(Seg anew, Seg old, int log, byte[] body) {
        byte[] all = new byte[128];
        System.arraycopy(header(anew.mark, 0, anew.generation, anew.base), 0, all, 0, 8);
        System.arraycopy(body, 0, all, 8, body.length);
        for (int from = 0; from < anew.mark; from += 32) {
            write(anew.slot, from, part(all, from, from + 32), "moving");
        }
        write(anew.slot, 2, new byte[] {(byte) (log + 1)}, "new owner");
        write(old.slot, 2, new byte[1], "old owner");
    }

    int retain(int log, int time) {
        power();
        if (log != 0 && log != 1) {
            throw new IllegalArgumentException();
        }
        List<Seg> segs = logs.get(log);
        int gone = 0;
        while (segs.size() > 1) {
            int marks = 0;
            for (Seg seg : segs.subList(1, segs.size())) {
                marks += seg.mark;
            }
            int greatest = Integer.MIN_VALUE;
            for (Bat b : segs.get(0).bats) {
                for (Rec r : b.recs) {
                    greatest = Math.max(greatest, r.time);
                }
            }
            boolean old = greatest < time - 1000L;
            if (!old && marks < 240) {
                break;
            }
            saw(old ? "retain by age" : "retain by size");
            write(segs.get(0).slot, 2, new byte[1], "letting go");
            segs.remove(0);
            start[log] = segs.get(0).base;
            gone++;
        }
        return gone;
    }

    boolean cut(int k) {
        if (k < 0 || !on) {
            return false;
        }
        cutAfter = k;
        return true;
    }

    private int number(int slot, int from, int size) {
        int n = 0;
        for (int i = 0; i < size; i++) {
            n = n * 256 + (disk[4 * slot + (from + i) / 32][(from + i) % 32] & 255);
        }
        return n;
    }

    /** Reads V(x) at a place; the place moves on. */
    private int v(int slot, int[] at) {
        int low = number(slot, at[0]++, 1);
        return low < 128 ? low : low - 128 + (v(slot, at) << 7);
    }

    private int z(int slot, int[] at) {
        int x = v(slot, at);
        return (x & 1) == 0 ? x >>> 1 : ~(x >>> 1);
    }

    private Seg read(int slot) {
        Seg seg = new Seg();
        seg.slot = slot;
        seg.generation = number(slot, 3, 1);
        seg.base = number(slot, 4, 4);
        int mark = number(slot, 0, 2);
        while (seg.mark < mark) {
            int[] at = {seg.mark};
            int size = 1 + number(slot, at[0]++, 1);
            Bat b = new Bat();
            int offset = seg.base + v(slot, at);
            int time = z(slot, at);
            b.producer = (byte) number(slot, at[0]++, 1);
            b.sequence = v(slot, at);
            int count = number(slot, at[0]++, 1);
            for (int i = 0; i < count; i++) {
                Rec r = new Rec(offset + v(slot, at), time + z(slot, at), z(slot, at), null);
                if (number(slot, at[0]++, 1) == 0) {
                    r.value = z(slot, at);
                }
                b.recs.add(r);
            }
            if (at[0] != seg.mark + size) {
                throw new AssertionError("a batch of another length than it says");
            }
            seg.take(b, size);
        }
        return seg;
    }

    int recover() {
        forget();
        on = true;
        cutAfter = -1;
        int before = writes;
        for (int slot = 0; slot < 16; slot++) {
            int owner = number(slot, 2, 1);
            if (owner == 0) {
                continue;
            }
            Seg seg = read(slot);
            List<Seg> segs = logs.get(owner - 1);
            Seg twin = segs.stream().filter(s -> s.base == seg.base).findFirst().orElse(null);
            if (twin == null) {
                segs.add(seg);
                continue;
            }
            boolean newer = seg.generation == (twin.generation + 1) % 256;
            saw(newer ? "twin behind" : "twin before");
            write(newer ? twin.slot : seg.slot, 2, new byte[1], "recovery");
            if (newer) {
                segs.set(segs.indexOf(twin), seg);
            }
        }
        for (int log = 0; log < 4; log++) {
            List<Seg> segs = logs.get(log);
            segs.sort((a, b) -> Integer.compare(a.base, b.base));
            if (!segs.isEmpty()) {
                learn(log, segs);
            }
        }
        return writes - before;
    }

    private void learn(int log, List<Seg> segs) {
        Seg active = segs.get(segs.size() - 1);
        start[log] = log < 2 ? segs.get(0).base : 0;
        next[log] = active.base;
        for (Bat b : active.bats) {
            next[log] = b.recs.get(b.recs.size() - 1).offset + 1;
        }
        if (active.bats.isEmpty()) {
            saw("empty active segment");
        }
        for (Seg seg : segs) {
            for (Bat b : seg.bats) {
                if (b.producer >= 0) {
                    latest.put(log * 8 + b.producer, new int[] {b.sequence, b.recs.size(), b.recs.get(0).offset});
                }
            }
        }
        if (log == 3) {
            for (Rec r : records(3)) {
                commits.put(r.key, r.value);
            }
        }
    }

    int log(int log, int what) {
        if (log < 0 || log > 3 || what < 0 || what > 5) {
            return -1;
        }
        List<Seg> segs = logs.get(log);
        int marks = segs.stream().mapToInt(s -> s.mark).sum();
        int entries = segs.stream().mapToInt(s -> s.index.size()).sum();
        int active = segs.isEmpty() ? -1 : segs.get(segs.size() - 1).base;
        return new int[] {start[log], next[log], segs.size(), marks, entries, active}[what];
    }

    int known(int log, int producer, int what) {
        if (log < 0 || log > 3 || producer < 0 || producer > 7 || what < 0 || what > 2) {
            return -1;
        }
        int[] known = latest.get(log * 8 + producer);
        return known == null ? -1 : known[what];
    }

    int octet(int block, int k) {
        return block < 0 || block > 63 || k < 0 || k > 31 ? -1 : disk[block][k] & 255;
    }

    int look(int what) {
        int free = 0;
        for (int slot = 0; slot < 16; slot++) {
            free += disk[4 * slot][2] == 0 ? 1 : 0;
        }
        int[] all = {on ? 1 : 0, writes, free, making.size(), looked, fetched.size()};
        return what < 0 || what > 5 ? -1 : all[what];
    }
}
