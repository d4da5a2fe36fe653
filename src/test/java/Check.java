/** What the tests share: comparing answers with what is due, and counting those that differ. */
final class Check {
    static final int ADD = 0;
    static final int FENCE = 1;
    static final int READ = 2;
    static final int ADDED = 3;
    static final int REFUSED = 4;
    static final int FENCED = 5;
    static final int GOT = 6;
    static final int MISSING = 7;

    /** Wrong arguments that every range of the document leaves out. */
    static final int[] FAR_OUT = {Integer.MIN_VALUE, -2, -1, 100, Integer.MAX_VALUE};

    private static int wrong = 0;

    private Check() {}

    static void due(String what, long got, long want) {
        if (got != want) {
            report(what, Long.toString(got), Long.toString(want));
        }
    }

    static void due(String what, boolean got, boolean want) {
        if (got != want) {
            report(what, Boolean.toString(got), Boolean.toString(want));
        }
    }

    static void due(String what, String got, String want) {
        if (!got.equals(want)) {
            report(what, got, want);
        }
    }

    static void dueThrow(String what, Class<? extends RuntimeException> want, Runnable call) {
        String got = "nothing";
        try {
            call.run();
        } catch (RuntimeException thrown) {
            got = thrown.getClass().getSimpleName();
        }
        due(what + " throws", got, want.getSimpleName());
    }

    private static void report(String what, String got, String want) {
        wrong++;
        System.out.println(what + " answered " + got + ", due is " + want);
    }

    /** Message i: kind, client, store, entry, value, TERM, mark. */
    static void dueMessage(FencedLedger x, int i, int... want) {
        for (int w = 0; w < want.length; w++) {
            due("message(" + i + ", " + w + ")", x.message(i, w), want[w]);
        }
    }

    /** Store s: UP, FENCED, MARK, how many entries. */
    static void dueStore(FencedLedger x, int s, int... want) {
        for (int w = 0; w < want.length; w++) {
            due("store(" + s + ", " + w + ")", x.store(s, w), want[w]);
        }
    }

    /** The writer: state, how many entries, LAC. */
    static void dueWriter(FencedLedger x, int... want) {
        for (int w = 0; w < want.length; w++) {
            due("writer(" + w + ")", x.writer(w), want[w]);
        }
    }

    /** Recoverer r: state, TERM, E, how many ANSWERED, highest MARK. */
    static void dueRecoverer(FencedLedger x, int r, int... want) {
        for (int w = 0; w < want.length; w++) {
            due("recoverer(" + r + ", " + w + ")", x.recoverer(r, w), want[w]);
        }
    }

    /** The ledger: STATE, VERSION, LAST. */
    static void dueLedger(FencedLedger x, int... want) {
        for (int w = 0; w < want.length; w++) {
            due("ledger(" + w + ")", x.ledger(w), want[w]);
        }
    }

    /** Delivers the first message as often as kinds are given, which are due. */
    static void deliverFirst(FencedLedger x, int... kinds) {
        for (int kind : kinds) {
            due("deliver(0)", x.deliver(0), kind);
        }
    }

    static void deliverAll(FencedLedger x) {
        int left = 400;
        while (left > 0 && x.deliver(0) != FencedLedger.NONE) {
            left--;
        }
        due("a channel that runs empty", left > 0, true);
    }

    static void loseAll(FencedLedger x) {
        int left = 20;
        while (left > 0 && x.lose(0)) {
            left--;
        }
        due("flight()", x.flight(), 0);
    }

    /** N, W, Q with the given number of entries, all of them on all of their SET and counted. */
    static FencedLedger counted(int n, int w, int q, int... values) {
        FencedLedger x = new FencedLedger(n, w, q);
        for (int value : values) {
            x.add(value);
            deliverAll(x);
        }
        due("writer(2)", x.writer(2), values.length - 1);
        return x;
    }

    static void end() {
        System.out.println(
                wrong == 0 ? "all answers are as due" : wrong + " answers are not as due");
        if (wrong != 0) {
            System.exit(1);
        }
    }
}
