import java.util.ArrayList;
import java.util.Arrays;
import java.util.List;
import java.util.Map;
import java.util.Random;
import java.util.TreeMap;

/** Promises 1 to 17 together: runs of calls, the same ones each time, answered by the class and by the model. */
public final class ModelTest {
    private static final int RUNS = 6000;
    private static final int CALLS = 512;
    private static final String[] EVENTS = {"append without room", "clean with too many bytes", "clean without room",
        "cut at batch", "cut at dropping", "cut at letting go", "cut at mark", "cut at moving", "cut at new owner",
        "cut at new segment", "cut at old owner", "empty active segment", "fetch through segments", "full slot",
        "out of order", "retain by age", "retain by size", "same again", "segment dropped", "segment moved",
        "segment not changed", "twin before", "twin behind"};
    private static final int[] ODD = {Integer.MIN_VALUE, -2, -1, 0, 1, 3, 4, 7, 8, 9, 31, 32, 63, 64, Integer.MAX_VALUE};
    private static final int[] TIMES = {0, 0, 0, 1, 50, -100, 900, 1 << 30, Integer.MAX_VALUE, Integer.MIN_VALUE};

    /** Runs of great numbers that fill the disk, and runs of batches that grow when they are cleaned. */
    private static final int HEAVY = 1;
    private static final int GROWING = 2;

    private final Random random;
    private final LogBroker x = new LogBroker();
    private final Model m = new Model();
    private final List<String> calls = new ArrayList<>();
    private final int[] sequences = new int[32];
    private final int[] weights = new int[12];
    private final int flavour;
    private final int keys;
    private final boolean wide;
    private int time = 0;
    private int fresh = 2;

    private ModelTest(long seed) {
        random = new Random(seed);
        for (int i = 0; i < weights.length; i++) {
            weights[i] = 1 + random.nextInt(6);
        }
        weights[0] = 20 + random.nextInt(40);
        weights[1] = 8 + random.nextInt(20);
        weights[8] = random.nextInt(3);
        weights[9] = random.nextInt(2);
        flavour = random.nextInt(4);
        keys = 1 + random.nextInt(40);
        wide = random.nextInt(3) == 0;
        if (flavour == HEAVY) {
            weights[0] = 150;
            weights[1] = 30;
            weights[6] = 1;
            weights[7] = 1;
        }
    }

    private int below(int n) {
        return random.nextInt(n);
    }

    /** Mostly a number that is fine, now and then one at an edge. */
    private int near(int least, int most) {
        return below(25) == 0 ? ODD[below(ODD.length)] : least + below(most - least + 1);
    }

    private int someTime() {
        time += below(3) == 0 ? below(60) : 0;
        return wide && below(2) == 0 ? TIMES[below(TIMES.length)] : time;
    }

    private int someValue() {
        int size = below(32);
        return random.nextInt() >> size;
    }

    private void same(String call, Check.Call got, Check.Call want) {
        String due = Check.answer(want);
        String answer = Check.answer(got);
        calls.add(call + " = " + due);
        if (!due.equals(answer)) {
            Check.same(String.join("\n", calls), due, answer);
            Check.finish("ModelTest");
        }
    }

    private void act() {
        int sum = Arrays.stream(weights).sum();
        int chosen = below(sum);
        int kind = 0;
        while (chosen >= weights[kind]) {
            chosen -= weights[kind];
            kind++;
        }
        switch (kind) {
            case 0 -> add();
            case 1 -> produce();
            case 2 -> fetch();
            case 3 -> fetched();
            case 4 -> since();
            case 5 -> commit();
            case 6 -> clean();
            case 7 -> retain();
            case 8 -> cut();
            case 9 -> same("recover()", () -> x.recover(), () -> m.recover());
            case 10 -> ask();
            default -> committed();
        }
        if (!m.on && below(4) == 0) {
            same("recover()", () -> x.recover(), () -> m.recover());
        }
    }

    private void addGrowing() {
        int count = m.look(3);
        int at = count == 1 ? 1 << 30 : 0;
        int key = count == 0 ? 1 : fresh;
        fresh = fresh == 60 ? 2 : fresh + 1;
        same("add(" + at + ", " + key + ", 0)", () -> x.add(at, key, 0), () -> m.add(at, key, 0));
    }

    private void add() {
        if (flavour == GROWING && below(20) != 0) {
            addGrowing();
            return;
        }
        int at = someTime();
        int small = below(30) == 0 ? someValue() : below(keys);
        int key = flavour == HEAVY ? Integer.MIN_VALUE + small : small;
        if (below(6) == 0) {
            same("erase(" + at + ", " + key + ")", () -> x.erase(at, key), () -> m.add(at, key, null));
        } else {
            int value = flavour == HEAVY ? random.nextInt() : wide && below(2) == 0 ? 0 : someValue();
            same("add(" + at + ", " + key + ", " + value + ")", () -> x.add(at, key, value), () -> m.add(at, key, value));
        }
    }

    private void produce() {
        int log = below(3) == 0 || flavour == HEAVY ? near(0, 2) : 2;
        int producer = below(2) == 0 ? -1 : near(-1, 7);
        int place = (log & 3) * 8 + (producer & 7);
        int sequence = sequences[place] + (below(6) == 0 ? below(3) - 1 : 0);
        if (below(60) == 0) {
            sequence = ODD[below(ODD.length)];
        }
        int sent = sequence;
        int count = m.look(3);
        same("produce(" + log + ", " + producer + ", " + sent + ")", () -> x.produce(log, producer, sent),
                () -> m.produce(log, producer, sent));
        if (below(5) != 0) {
            sequences[place] = sent + count;
        }
    }

    private int someOffset(int log) {
        int end = log >= 0 && log < 4 ? m.log(log, 1) : 0;
        return near(0, Math.max(0, end));
    }

    private void fetch() {
        int log = near(0, 3);
        int offset = someOffset(log);
        int n = near(1, 8);
        same("fetch(" + log + ", " + offset + ", " + n + ")", () -> x.fetch(log, offset, n), () -> m.fetch(log, offset, n));
        same("look(4)", () -> x.look(4), () -> m.look(4));
    }

    private void fetched() {
        int k = near(0, 8);
        int what = near(0, 4);
        same("fetched(" + k + ", " + what + ")", () -> x.fetched(k, what), () -> m.fetched(k, what));
    }

    private void since() {
        int log = near(0, 3);
        int at = below(2) == 0 ? someTime() : below(time + 1);
        same("since(" + log + ", " + at + ")", () -> x.since(log, at), () -> m.since(log, at));
    }

    private void commit() {
        int group = near(0, 7);
        int log = near(0, 2);
        int offset = someOffset(log);
        Check.Act got = () -> x.commit(group, log, offset);
        Check.Act want = () -> m.commit(group, log, offset);
        same("commit(" + group + ", " + log + ", " + offset + ")", () -> throwing(got), () -> throwing(want));
    }

    private static Object throwing(Check.Act act) {
        act.run();
        return Check.DONE;
    }

    private void committed() {
        int group = near(0, 7);
        int log = near(0, 2);
        same("committed(" + group + ", " + log + ")", () -> x.committed(group, log), () -> m.committed(group, log));
    }

    private void clean() {
        int log = near(2, 3);
        int at = below(3) == 0 ? someTime() : time + below(200);
        same("clean(" + log + ", " + at + ")", () -> x.clean(log, at), () -> m.clean(log, at));
    }

    private void retain() {
        int log = near(0, 1);
        int at = below(3) == 0 ? someTime() : time + below(1200);
        same("retain(" + log + ", " + at + ")", () -> x.retain(log, at), () -> m.retain(log, at));
    }

    private void cut() {
        int k = near(0, 9);
        same("cut(" + k + ")", () -> x.cut(k), () -> m.cut(k));
    }

    private void ask() {
        int log = near(0, 3);
        int what = near(0, 5);
        int producer = near(0, 7);
        int block = near(0, 63);
        int k = near(0, 31);
        same("log(" + log + ", " + what + ")", () -> x.log(log, what), () -> m.log(log, what));
        same("known(" + log + ", " + producer + ", " + what + ")", () -> x.known(log, producer, what),
                () -> m.known(log, producer, what));
        same("octet(" + block + ", " + k + ")", () -> x.octet(block, k), () -> m.octet(block, k));
        same("look(" + what + ")", () -> x.look(what), () -> m.look(what));
    }

    private void run() {
        while (calls.size() < CALLS - 140) {
            act();
        }
        for (int log = 0; log < 4; log++) {
            for (int what = 0; what < 6; what++) {
                int l = log;
                int w = what;
                same("log(" + l + ", " + w + ")", () -> x.log(l, w), () -> m.log(l, w));
            }
        }
        while (calls.size() < CALLS) {
            int place = below(2048);
            same("octet(" + place / 32 + ", " + place % 32 + ")", () -> x.octet(place / 32, place % 32),
                    () -> m.octet(place / 32, place % 32));
        }
    }

    public static void main(String[] args) {
        Map<String, Integer> events = new TreeMap<>();
        for (int seed = 0; seed < RUNS; seed++) {
            ModelTest test = new ModelTest(seed);
            test.run();
            test.m.events.forEach((event, n) -> events.merge(event, n, Integer::sum));
        }
        for (String event : EVENTS) {
            Check.due("runs in which there was " + event, true, () -> events.getOrDefault(event, 0) > 0);
        }
        System.out.println(events);
        Check.finish("ModelTest");
    }
}
