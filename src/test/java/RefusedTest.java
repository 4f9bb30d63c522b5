import java.util.Arrays;
import java.util.function.Function;
import java.util.function.Supplier;

/**
 * "What throws or is refused changes nothing, where nothing else is said." Each call is made on an object, and
 * not on a second one that is made in the same way: both must tell the same then, of everything that can be asked.
 */
public final class RefusedTest {
    private static final int MIN = Integer.MIN_VALUE;
    private static final int MAX = Integer.MAX_VALUE;
    private static final int BYTES_AT_ONCE = 256;
    private static final int PARTS = 2 + 2048 / BYTES_AT_ONCE;

    public static void main(String[] args) {
        addAndErase();
        produceWithWrongArguments();
        produceOfAnEmptyBatch();
        produceOutOfOrder();
        theSameAgain();
        produceWithoutRoom();
        fetchAndFetched();
        since();
        commit();
        clean();
        retain();
        cut();
        questions();
        withoutPower();
        Check.finish("RefusedTest");
    }

    /** An object is good for 512 calls, so each part of the state is looked at on a pair of objects of its own. */
    private static void unchanged(String what, Object want, Supplier<LogBroker> maker, Function<LogBroker, Object> call) {
        for (int part = 0; part < PARTS; part++) {
            LogBroker x = maker.get();
            LogBroker y = maker.get();
            Check.due(what, want, () -> call.apply(x));
            String due = view(y, part);
            String got = view(x, part);
            int from = Math.max(0, Arrays.mismatch(due.toCharArray(), got.toCharArray()) - 40);
            Check.same(what + ", part " + part + " of the state", shortened(due, from), shortened(got, from));
        }
    }

    private static String shortened(String text, int from) {
        return text.substring(Math.min(from, text.length()), Math.min(from + 80, text.length()));
    }

    private static String view(LogBroker x, int part) {
        StringBuilder text = new StringBuilder();
        if (part == 0) {
            whatIsKnown(x, text);
        } else if (part == 1) {
            whatComesThen(x, text);
        } else {
            for (int i = (part - 2) * BYTES_AT_ONCE; i < (part - 1) * BYTES_AT_ONCE; i++) {
                text.append(' ').append(x.octet(i / 32, i % 32));
            }
        }
        return text.toString();
    }

    private static void whatIsKnown(LogBroker x, StringBuilder text) {
        for (int what = 0; what < 6; what++) {
            text.append(' ').append(x.look(what));
        }
        for (int log = 0; log < 4; log++) {
            text.append(" log ").append(Check.logOf(x, log)).append(" known");
            for (int producer = 0; producer < 8; producer++) {
                text.append(' ').append(Check.knownOf(x, log, producer));
            }
        }
        for (int i = 0; i < 24; i++) {
            int group = i / 3;
            int log = i % 3;
            text.append(' ').append(Check.answer(() -> x.committed(group, log)));
        }
        fetchedOf(x, text);
    }

    private static void fetchedOf(LogBroker x, StringBuilder text) {
        for (int i = 0; i < 40; i++) {
            int k = i / 5;
            int what = i % 5;
            text.append(' ').append(Check.answer(() -> x.fetched(k, what)));
        }
    }

    /** The batch that is being made and the cut show themselves when they are used. */
    private static void whatComesThen(LogBroker x, StringBuilder text) {
        text.append(Check.answer(() -> x.produce(1, -1, 0)));
        text.append(' ').append(Check.answer(() -> x.fetch(1, x.log(1, 1) - 4, 8)));
        fetchedOf(x, text);
        for (int i = 0; i < 8; i++) {
            x.add(i, i, i);
            text.append(' ').append(Check.answer(() -> x.produce(1, -1, 0))).append(' ').append(x.look(1));
        }
        text.append(" recover ").append(x.recover());
        for (int log = 0; log < 4; log++) {
            text.append(' ').append(Check.logOf(x, log));
        }
        text.append(' ').append(Check.answer(() -> x.clean(2, 5000)));
        text.append(' ').append(Check.answer(() -> x.retain(0, 500)));
    }

    /** Something of everything, but no batch is being made. Log 0 has START 8 and NEXT 28, a cut is set. */
    private static LogBroker rich() {
        LogBroker x = new LogBroker();
        for (int i = 0; i < 7; i++) {
            Check.sendBig(x, 0);
        }
        x.retain(0, 0);
        x.add(5, 5, 5);
        x.erase(6, 6);
        x.produce(1, 4, 10);
        x.add(1, 1, 1);
        x.erase(2, 2);
        x.produce(2, 3, 20);
        Check.sendBig(x, 2);
        Check.sendBig(x, 2);
        x.commit(0, 0, 20);
        x.commit(7, 2, 10);
        x.fetch(0, 18, 7);
        x.cut(9);
        return x;
    }

    private static LogBroker richWith(int count) {
        LogBroker x = rich();
        for (int i = 0; i < count; i++) {
            x.add(100 + i, 200 + i, 300 + i);
        }
        return x;
    }

    /** No slot is free, none of the batches below fits, and log 2 has a segment that cannot be cleaned for that. */
    private static LogBroker full() {
        LogBroker x = new LogBroker();
        for (int i = 0; i < 24; i++) {
            Check.sendBig(x, 0);
        }
        Check.sendBig(x, 1);
        Check.sendBig(x, 1);
        x.add(0, 1, 1);
        x.add(0, 2, 2);
        x.produce(2, 6, 0);
        for (int i = 0; i < 5; i++) {
            Check.sendBig(x, 2);
        }
        x.fetch(1, 2, 3);
        return x;
    }

    /** The power went at a commit; then a batch was begun. */
    private static LogBroker dark(int count) {
        LogBroker x = rich();
        x.cut(0);
        Check.answerOf(() -> x.commit(0, 0, 20));
        for (int i = 0; i < count; i++) {
            x.add(100 + i, 200 + i, 300 + i);
        }
        return x;
    }

    private static void addBig(LogBroker x) {
        for (int i = 0; i < 4; i++) {
            x.add(0, MIN, MIN);
        }
    }

    /** "false (refused) if it has four." */
    private static void addAndErase() {
        unchanged("add", false, () -> richWith(4), x -> x.add(9, 9, 9));
        unchanged("erase", false, () -> richWith(4), x -> x.erase(9, 9));
        unchanged("add without power", false, () -> dark(4), x -> x.add(9, 9, 9));
        unchanged("erase without power", false, () -> dark(4), x -> x.erase(9, 9));
    }

    /** "IllegalArgumentException: no such log or producer, sequence below 0"; "A new batch is begun then in any case." */
    private static void produceWithWrongArguments() {
        int[][] wrong = {{-1, -1, 0}, {3, -1, 0}, {4, 0, 0}, {MIN, 0, 0}, {MAX, 0, 0}, {0, -2, 0}, {0, 8, 0}, {1, MIN, 0},
            {1, MAX, 0}, {1, 4, -1}, {2, 3, MIN}};
        for (int[] w : wrong) {
            unchanged("produce(" + w[0] + ", " + w[1] + ", " + w[2] + ")", Check.IAE, RefusedTest::rich, x -> {
                x.add(1, 1, 1);
                return x.produce(w[0], w[1], w[2]);
            });
        }
    }

    /** "or the batch is empty" */
    private static void produceOfAnEmptyBatch() {
        unchanged("without producer", Check.IAE, RefusedTest::rich, x -> x.produce(0, -1, 0));
        unchanged("with a known producer", Check.IAE, RefusedTest::rich, x -> x.produce(1, 4, 12));
        unchanged("with an unknown producer", Check.IAE, RefusedTest::rich, x -> x.produce(2, 0, 0));
    }

    /** "UnsupportedOperationException: OUT OF ORDER" */
    private static void produceOutOfOrder() {
        for (int sequence : new int[] {0, 9, 10, 11, 13, MAX}) {
            unchanged("sequence " + sequence, Check.UOE, RefusedTest::rich, x -> {
                x.add(1, 1, 1);
                return x.produce(1, 4, sequence);
            });
        }
    }

    /** "(the SAME again): nothing is appended, its offset is the answer." */
    private static void theSameAgain() {
        unchanged("the same in log 1", 0, RefusedTest::rich, x -> {
            x.erase(7, 7);
            x.erase(8, 8);
            return x.produce(1, 4, 10);
        });
        unchanged("the same on a full disk", 0, RefusedTest::full, x -> {
            x.add(7, 7, 7);
            x.add(8, 8, 8);
            return x.produce(2, 6, 0);
        });
    }

    /** "(NO ROOM: nothing is changed)" */
    private static void produceWithoutRoom() {
        for (int log = 0; log < 3; log++) {
            int to = log;
            unchanged("without producer to " + log, Check.UOE, RefusedTest::full, x -> {
                addBig(x);
                return x.produce(to, -1, 0);
            });
            unchanged("with a producer to " + log, Check.UOE, RefusedTest::full, x -> {
                addBig(x);
                return x.produce(to, 0, 5);
            });
        }
        unchanged("with the next sequence", Check.UOE, RefusedTest::full, x -> {
            addBig(x);
            return x.produce(2, 6, 2);
        });
    }

    /** "no such log, or n is not so; ... offset is not START .. NEXT"; "there is none such, or no such what." */
    private static void fetchAndFetched() {
        int[][] wrong = {{-1, 0, 1}, {4, 0, 1}, {0, 20, 0}, {0, 20, 9}, {0, 20, -1}, {0, 20, MIN}, {0, 20, MAX}};
        for (int[] w : wrong) {
            unchanged("fetch(" + w[0] + ", " + w[1] + ", " + w[2] + ")", Check.IAE, () -> richWith(2),
                    x -> x.fetch(w[0], w[1], w[2]));
        }
        int[][] outside = {{0, 7}, {0, 29}, {0, -1}, {0, MIN}, {0, MAX}, {1, -1}, {1, 3}, {2, -1}, {2, 11}, {3, 3}};
        for (int[] o : outside) {
            unchanged("fetch(" + o[0] + ", " + o[1] + ", 8)", Check.IOOBE, () -> richWith(2), x -> x.fetch(o[0], o[1], 8));
        }
        int[][] none = {{7, 0}, {8, 0}, {-1, 0}, {0, -1}, {0, 5}};
        for (int[] n : none) {
            unchanged("fetched(" + n[0] + ", " + n[1] + ")", Check.IOOBE, () -> richWith(2), x -> x.fetched(n[0], n[1]));
        }
    }

    /** "-1 without. ... IllegalArgumentException: no such log." */
    private static void since() {
        for (int log : new int[] {-1, 4, MIN, MAX}) {
            unchanged("since(" + log + ", 0)", Check.IAE, () -> richWith(2), x -> x.since(log, 0));
        }
        unchanged("since without answer", -1, () -> richWith(2), x -> x.since(0, MAX));
        unchanged("since with one", 8, () -> richWith(2), x -> x.since(0, 0));
    }

    private static void dueCommit(String why, String want, Supplier<LogBroker> maker, int group, int log, int offset) {
        unchanged("commit(" + group + ", " + log + ", " + offset + ") " + why, want, maker, x -> {
            x.commit(group, log, offset);
            return Check.DONE;
        });
    }

    /** "no such group or log; ... offset is not START .. NEXT of that log; ... NO ROOM." */
    private static void commit() {
        for (int group : new int[] {-1, 8, MIN, MAX}) {
            dueCommit("group", Check.IAE, () -> richWith(2), group, 0, 20);
        }
        for (int log : new int[] {-1, 3, 4, MIN, MAX}) {
            dueCommit("log", Check.IAE, () -> richWith(2), 0, log, 0);
        }
        int[][] outside = {{0, 7}, {0, 29}, {1, -1}, {1, 3}, {2, 11}, {0, MIN}, {0, MAX}};
        for (int[] o : outside) {
            dueCommit("offset", Check.IOOBE, () -> richWith(2), 0, o[0], o[1]);
        }
        dueCommit("no room", Check.UOE, RefusedTest::full, 0, 0, 0);
    }

    /** "IllegalArgumentException: it is none."; "NO ROOM: the cleaning ends there" */
    private static void clean() {
        for (int log : new int[] {-1, 0, 1, 4, MIN, MAX}) {
            unchanged("clean(" + log + ", 9999)", Check.IAE, () -> richWith(2), x -> x.clean(log, 9999));
        }
        unchanged("clean of an ACTIVE one alone", 0, () -> richWith(2), x -> x.clean(3, MAX));
        unchanged("clean without room", 0, RefusedTest::full, x -> x.clean(2, MAX));
    }

    /** "IllegalArgumentException: it is none."; "as long as it has more than one segment" */
    private static void retain() {
        for (int log : new int[] {-1, 2, 3, 4, MIN, MAX}) {
            unchanged("retain(" + log + ", 9999)", Check.IAE, () -> richWith(2), x -> x.retain(log, 9999));
        }
        unchanged("retain of one segment", 0, () -> richWith(2), x -> x.retain(1, MAX));
        unchanged("retain of what is young", 0, () -> richWith(2), x -> x.retain(0, 1000));
    }

    /** "false (refused) if k is below 0 or the power is OFF." */
    private static void cut() {
        unchanged("cut(-1)", false, () -> richWith(2), x -> x.cut(-1));
        unchanged("cut of the least", false, () -> richWith(2), x -> x.cut(MIN));
        unchanged("cut(0) without power", false, () -> dark(2), x -> x.cut(0));
        unchanged("cut(3) without power", false, () -> dark(2), x -> x.cut(3));
    }

    /** "-1 for another log or what"; "or there is none such"; "-1 if there is none"; "-1 for another what." */
    private static void questions() {
        for (int wrong : new int[] {-1, 64, MIN, MAX}) {
            unchanged("log(" + wrong + ", 0)", -1, () -> richWith(2), x -> x.log(wrong, 0));
            unchanged("log(0, " + wrong + ")", -1, () -> richWith(2), x -> x.log(0, wrong));
            unchanged("known(1, " + wrong + ", 0)", -1, () -> richWith(2), x -> x.known(1, wrong, 0));
            unchanged("octet(" + wrong + ", 0)", -1, () -> richWith(2), x -> x.octet(wrong, 0));
            unchanged("look(" + wrong + ")", -1, () -> richWith(2), x -> x.look(wrong));
            unchanged("committed(" + wrong + ", 0)", -1, () -> richWith(2), x -> x.committed(wrong, 0));
        }
    }

    /** "the call throws IllegalStateException, and so does every call that lists it, until RECOVERY" */
    private static void withoutPower() {
        unchanged("produce", Check.ISE, () -> dark(0), x -> {
            x.add(1, 1, 1);
            return x.produce(0, -1, 0);
        });
        unchanged("produce of nothing", Check.ISE, () -> dark(0), x -> x.produce(0, -1, 0));
        unchanged("fetch", Check.ISE, () -> dark(2), x -> x.fetch(0, 20, 1));
        unchanged("fetched", Check.IOOBE, () -> dark(2), x -> x.fetched(0, 0));
        unchanged("since", Check.ISE, () -> dark(2), x -> x.since(0, 0));
        dueCommit("without power", Check.ISE, () -> dark(2), 0, 0, 20);
        unchanged("committed", Check.ISE, () -> dark(2), x -> x.committed(0, 0));
        unchanged("clean", Check.ISE, () -> dark(2), x -> x.clean(2, 9999));
        unchanged("retain", Check.ISE, () -> dark(2), x -> x.retain(0, 9999));
    }
}
