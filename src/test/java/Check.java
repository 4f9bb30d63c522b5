/** What the tests share: calls with the answers that are due. */
final class Check {
    interface Call {
        Object run();
    }

    interface Act {
        void run();
    }

    static final String ISE = "throws.IllegalStateException";
    static final String IAE = "throws.IllegalArgumentException";
    static final String IOOBE = "throws.IndexOutOfBoundsException";
    static final String UOE = "throws.UnsupportedOperationException";
    static final String DONE = "done";

    private static int wrong = 0;
    private static int asked = 0;

    private Check() {
    }

    /** The answer of a call as a text; an exception is told by its very class. */
    static String answer(Call call) {
        try {
            return String.valueOf(call.run());
        } catch (RuntimeException e) {
            return "throws." + e.getClass().getSimpleName();
        }
    }

    static String answerOf(Act act) {
        return answer(() -> {
            act.run();
            return DONE;
        });
    }

    static void due(String what, Object want, Call call) {
        same(what, String.valueOf(want), answer(call));
    }

    static void dueOf(String what, Object want, Act act) {
        same(what, String.valueOf(want), answerOf(act));
    }

    static void same(String what, String want, String got) {
        asked++;
        if (!want.equals(got)) {
            wrong++;
            System.out.println(what + " answered " + got + ", due is " + want);
        }
    }

    /** The bytes of the disk from a place on. */
    static void dueBytes(String what, LogBroker x, int block, int k, int... want) {
        for (int i = 0; i < want.length; i++) {
            int place = block * 32 + k + i;
            due(what + ", byte " + i, want[i], () -> x.octet(place / 32, place % 32));
        }
    }

    /** Sends the batch {time, key, value} ... without producer. */
    static int send(LogBroker x, int log, int... records) {
        for (int i = 0; i + 2 < records.length; i += 3) {
            x.add(records[i], records[i + 1], records[i + 2]);
        }
        return x.produce(log, -1, 0);
    }

    /** log(log, 0 .. 5) in one text. */
    static String logOf(LogBroker x, int log) {
        StringBuilder text = new StringBuilder();
        for (int what = 0; what < 6; what++) {
            text.append(what == 0 ? "" : " ").append(x.log(log, what));
        }
        return text.toString();
    }

    static String knownOf(LogBroker x, int log, int producer) {
        return x.known(log, producer, 0) + " " + x.known(log, producer, 1) + " " + x.known(log, producer, 2);
    }

    /** The offsets that the latest fetch found, in one text. */
    static String offsets(LogBroker x) {
        StringBuilder text = new StringBuilder();
        for (int k = 0; k < x.look(5); k++) {
            text.append(k == 0 ? "" : " ").append(x.fetched(k, 0));
        }
        return text.toString();
    }

    /** A batch of 6 + 4 * 13 bytes: two of them fit into a slot, a third one does not. */
    static int sendBig(LogBroker x, int log) {
        int big = Integer.MIN_VALUE;
        return send(x, log, 0, big, big, 0, big, big, 0, big, big, 0, big, big);
    }

    static void finish(String name) {
        System.out.println(name + ": " + asked + " answers, " + wrong + " of them wrong");
        if (asked == 0 || wrong != 0) {
            System.exit(1);
        }
    }
}
