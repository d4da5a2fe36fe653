/** What the tests share: comparing answers with what is due, and counting those that differ. */
final class Check {
    static final int ADD = 0;
    static final int FENCE = 1;
    static final int READ = 2;
    static final int ADDED = 3;
    static final int REFUSED = 4;
    static final int FENCED = 5;
    static final int GOT = 6;
    static final int MISSING = 7;

    /** Wrong arguments that every range of the document leaves out. */
    static final int[] FAR_OUT = {Integer.MIN_VALUE, -2, -1, 100, Integer.MAX_VALUE};

    private static int wrong = 0;
    private static int edges = 0;
    private static String about = "";

    private Check() {}

    /**
     * A test of its own for the words of the document that name a boundary case. What it finds is
     * told with these words, and one that breaks off leaves the next ones to run.
     */
    static void edge(String words, Runnable test) {
        about = "\"" + words + "\": ";
        edges++;
        try {
            test.run();
        } catch (RuntimeException thrown) {
            report("a call", "throws." + thrown.getClass().getSimpleName(), "an answer");
        }
        about = "";
    }

    static void due(String what, long got, long want) {
        if (got != want) {
            report(what, Long.toString(got), Long.toString(want));
        }
    }

    static void due(String what, boolean got, boolean want) {
        if (got != want) {
            report(what, Boolean.toString(got), Boolean.toString(want));
        }
    }

    static void due(String what, String got, String want) {
        if (!got.equals(want)) {
            report(what, got, want);
        }
    }

    static void dueThrow(String what, Class<? extends RuntimeException> want, Runnable call) {
        String got = "nothing";
        try {
            call.run();
        } catch (RuntimeException thrown) {
            got = thrown.getClass().getSimpleName();
        }
        due(what + " throws", got, want.getSimpleName());
    }

    private static void report(String what, String got, String want) {
        wrong++;
        System.out.println(about + what + " answered " + got + ", due is " + want);
    }

    /** Message i: kind, client, store, entry, value, TERM, mark. */
    static void dueMessage(Face x, int i, int... want) {
        for (int w = 0; w < want.length; w++) {
            due("message(" + i + ", " + w + ")", x.message(i, w), want[w]);
        }
    }

    /** Store s: UP, FENCED, MARK, how many entries. */
    static void dueStore(Face x, int s, int... want) {
        for (int w = 0; w < want.length; w++) {
            due("store(" + s + ", " + w + ")", x.store(s, w), want[w]);
        }
    }

    /** The writer: state, how many entries, LAC. */
    static void dueWriter(Face x, int... want) {
        for (int w = 0; w < want.length; w++) {
            due("writer(" + w + ")", x.writer(w), want[w]);
        }
    }

    /** Recoverer r: state, TERM, E, how many ANSWERED, highest MARK. */
    static void dueRecoverer(Face x, int r, int... want) {
        for (int w = 0; w < want.length; w++) {
            due("recoverer(" + r + ", " + w + ")", x.recoverer(r, w), want[w]);
        }
    }

    /** The ledger: STATE, VERSION, LAST. */
    static void dueLedger(Face x, int... want) {
        for (int w = 0; w < want.length; w++) {
            due("ledger(" + w + ")", x.ledger(w), want[w]);
        }
    }

    /** Delivers the first message as often as kinds are given, which are due. */
    static void deliverFirst(Face x, int... kinds) {
        for (int kind : kinds) {
            due("deliver(0)", x.deliver(0), kind);
        }
    }

    static void deliverAll(Face x) {
        int left = 400;
        while (left > 0 && x.deliver(0) != FencedLedger.NONE) {
            left--;
        }
        due("a channel that runs empty", left > 0, true);
    }

    /** Delivers the first message of this kind that goes to or comes from store s. */
    static void pass(Face x, int kind, int s) {
        int i = 0;
        while (i < 20 && (x.message(i, 0) != kind || x.message(i, 2) != s)) {
            i++;
        }
        due("deliver of kind " + kind + ", store " + s, x.deliver(i), kind);
    }

    /** Delivers such a message to store s, and then what the store answers, which is due. */
    static void passWithAnswer(Face x, int kind, int s, int answer) {
        pass(x, kind, s);
        due("deliver of the answer", x.deliver(x.flight() - 1), answer);
    }

    /** Sends entry e again until the channel holds 20 messages. */
    static void fillWith(Face x, int e) {
        int left = 20;
        while (left > 0 && x.flight() < 20) {
            x.resend(e);
            left--;
        }
        due("flight() when full", x.flight(), 20);
    }

    static void loseAll(Face x) {
        int left = 20;
        while (left > 0 && x.lose(0)) {
            left--;
        }
        due("flight()", x.flight(), 0);
    }

    static void loseAllBut(Face x, int kind) {
        for (int i = x.flight() - 1; i >= 0; i--) {
            if (x.message(i, 0) != kind) {
                x.lose(i);
            }
        }
    }

    /** N, W, Q with the given number of entries, all of them on all of their SET and counted. */
    static Face counted(int n, int w, int q, int... values) {
        Face x = new Real(n, w, q);
        for (int value : values) {
            x.add(value);
            deliverAll(x);
        }
        due("writer(2)", x.writer(2), values.length - 1);
        return x;
    }

    static void end() {
        String cases = edges == 0 ? "" : edges + " boundary cases: ";
        String found = wrong == 0 ? "all answers are as due" : wrong + " answers are not as due";
        System.out.println(cases + found);
        if (wrong != 0) {
            System.exit(1);
        }
    }
}
