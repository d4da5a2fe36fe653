/** The document's 'Terms': what a recoverer hears while FENCING, and how it reads on. */
public final class EdgesTermsRecovererTest {
    public static void main(String[] args) {
        Check.edge("A RECOVERER is IDLE (0, at first)", EdgesTermsRecovererTest::idleAtFirst);
        Check.edge("It has a TERM, at first 0", EdgesTermsRecovererTest::termAtFirst);
        String term = "It hears only messages with its TERM.";
        Check.edge(term, EdgesTermsRecovererTest::fencedOfOldTerm);
        Check.edge(term, EdgesTermsRecovererTest::gotOfOldTerm);
        Check.edge(term, EdgesTermsRecovererTest::missingOfOldTerm);
        Check.edge(term, EdgesTermsRecovererTest::addedOfOldTerm);
        Check.edge(term, EdgesTermsRecovererTest::ledgerHasOtherVersion);
        Check.edge(term, EdgesTermsRecovererTest::ledgerIsClosed);
        String readOn = "To READ ON from e: E is e, nobody has ANSWERED, it is READING";
        Check.edge(readOn, EdgesTermsRecovererTest::readsOnFromFencing);
        Check.edge(readOn, EdgesTermsRecovererTest::readsOnFromWritingBack);
        String twenty = "But if e is 20, it FINISHES instead.";
        Check.edge(twenty, EdgesTermsRecovererTest::nineteenIsRead);
        Check.edge(twenty, EdgesTermsRecovererTest::twentyBehindWritingBack);
        Check.edge(twenty, EdgesTermsRecovererTest::twentyBehindFencing);
        String highest = "its highest MARK is the greatest it was told (-1 at least)";
        Check.edge(highest, EdgesTermsRecovererTest::greatestMarkFirst);
        Check.edge(highest, EdgesTermsRecovererTest::greatestMarkLast);
        Check.edge(highest, EdgesTermsRecovererTest::noMarkAtAll);
        String fencing = "FENCED while FENCING: the store has ANSWERED";
        Check.edge(fencing, EdgesTermsRecovererTest::fencedTwice);
        Check.edge(fencing, EdgesTermsRecovererTest::fencedWhileReading);
        Check.edge(fencing, EdgesTermsRecovererTest::fencedWhileWritingBack);
        Check.edge(fencing, EdgesTermsRecovererTest::fencedWhenIdle);
        Check.edge(fencing, EdgesTermsRecovererTest::fencedWhenDone);
        String silent = "in the SET of each of the entries 0 .. N - 1 fewer than Q stores have not"
                + " ANSWERED";
        Check.edge(silent, EdgesTermsRecovererTest::everySetAndNumber);
        Check.edge(silent, EdgesTermsRecovererTest::oneSetIsSilent);
        Check.edge(silent, EdgesTermsRecovererTest::allMustAnswerWithQ1);
        Check.edge(silent, EdgesTermsRecovererTest::oneIsEnoughWithQOfN);
        Check.end();
    }

    private static void idleAtFirst() {
        Face x = new Real(3, 2, 1);
        for (int r = 1; r <= 2; r++) {
            Check.due("recoverer(" + r + ", 0)", x.recoverer(r, 0), 0);
            Check.due("retry(" + r + ")", x.retry(r), FencedLedger.NONE);
        }
    }

    private static void termAtFirst() {
        Face x = new Real(3, 2, 1);
        Check.due("recoverer(1, 1)", x.recoverer(1, 1), 0);
        Check.due("recoverer(2, 1)", x.recoverer(2, 1), 0);
    }

    private static void fencedOfOldTerm() {
        Face x = Scene.empty();
        x.recover(1);
        Check.pass(x, Check.FENCE, 0);
        x.abandon(1);
        x.recover(1);
        Check.pass(x, Check.FENCED, 0);
        Check.dueRecoverer(x, 1, 1, 2, 0, 0, -1);
    }

    /** Recoverer 1 READING entry 0 with N, W and Q 3. */
    private static void beginReading(Face x, int term) {
        x.recover(1);
        Check.passWithAnswer(x, Check.FENCE, 0, Check.FENCED);
        Check.dueRecoverer(x, 1, 2, term, 0, 0, -1);
    }

    private static void gotOfOldTerm() {
        Face x = Scene.onStoreZero(7);
        beginReading(x, 1);
        Check.pass(x, Check.READ, 0);
        x.abandon(1);
        beginReading(x, 2);
        Check.pass(x, Check.GOT, 0);
        Check.dueRecoverer(x, 1, 2, 2, 0, 0, -1);
    }

    private static void missingOfOldTerm() {
        Face x = Scene.empty();
        beginReading(x, 1);
        Check.pass(x, Check.READ, 0);
        x.abandon(1);
        beginReading(x, 2);
        Check.pass(x, Check.MISSING, 0);
        Check.dueRecoverer(x, 1, 2, 2, 0, 0, -1);
        Check.dueLedger(x, 1, 2, -1);
    }

    private static void addedOfOldTerm() {
        Face x = Scene.onStoreZero(7);
        beginReading(x, 1);
        Check.passWithAnswer(x, Check.READ, 0, Check.GOT);
        Check.pass(x, Check.ADD, 0);
        x.abandon(1);
        beginReading(x, 2);
        Check.passWithAnswer(x, Check.READ, 0, Check.GOT);
        Check.dueRecoverer(x, 1, 3, 2, 0, 0, -1);
        Check.pass(x, Check.ADDED, 0);
        Check.dueRecoverer(x, 1, 3, 2, 0, 0, -1);
    }

    /** Its own TERM counts for what it hears, whatever the ledger's VERSION is. */
    private static void hearsAll(Face x) {
        Check.pass(x, Check.FENCED, 0);
        Check.dueRecoverer(x, 1, 2, 1, 0, 0, -1);
        Check.passWithAnswer(x, Check.READ, 0, Check.GOT);
        Check.dueRecoverer(x, 1, 3, 1, 0, 0, -1);
        for (int s = 0; s < 3; s++) {
            Check.passWithAnswer(x, Check.ADD, s, Check.ADDED);
        }
        Check.dueRecoverer(x, 1, 2, 1, 1, 0, -1);
    }

    private static void ledgerHasOtherVersion() {
        Face x = Scene.onStoreZero(7);
        x.recover(1);
        Check.pass(x, Check.FENCE, 0);
        x.recover(2);
        hearsAll(x);
        Check.dueLedger(x, 1, 2, -1);
        Check.dueRecoverer(x, 2, 1, 2, 0, 0, -1);
    }

    private static void ledgerIsClosed() {
        Face x = Scene.onStoreZero(7);
        x.recover(1);
        Check.pass(x, Check.FENCE, 0);
        Check.loseAllBut(x, Check.FENCED);
        x.recover(2);
        Check.passWithAnswer(x, Check.FENCE, 1, Check.FENCED);
        Check.passWithAnswer(x, Check.READ, 1, Check.MISSING);
        Check.dueLedger(x, 2, 3, -1);
        for (int i = x.flight() - 1; i > 0; i--) {
            x.lose(i);
        }
        hearsAll(x);
        Check.dueLedger(x, 2, 3, -1);
    }

    private static void readsOnFromFencing() {
        Face x = Scene.fencing();
        Check.passWithAnswer(x, Check.FENCE, 2, Check.FENCED);
        Check.dueRecoverer(x, 1, 2, 1, 2, 0, 1);
        // FENCE to 3 is still on its way
        Check.due("flight()", x.flight(), 4);
        Check.dueMessage(x, 1, Check.READ, 1, 2, 2, 0, 1, 0);
        Check.dueMessage(x, 2, Check.READ, 1, 3, 2, 0, 1, 0);
        Check.dueMessage(x, 3, Check.READ, 1, 0, 2, 0, 1, 0);
    }

    private static void readsOnFromWritingBack() {
        Face x = Scene.writingBack();
        int flight = x.flight();
        Check.passWithAnswer(x, Check.ADD, 0, Check.ADDED);
        Check.dueRecoverer(x, 1, 2, 1, 3, 0, 1);
        Check.due("flight()", x.flight(), flight + 2);
        Check.dueMessage(x, flight - 1, Check.READ, 1, 3, 3, 0, 1, 0);
        Check.dueMessage(x, flight, Check.READ, 1, 0, 3, 0, 1, 0);
        Check.dueMessage(x, flight + 1, Check.READ, 1, 1, 3, 0, 1, 0);
    }

    /** N 3, W 2, Q 1: the greatest mark of 20 entries that were counted one by one is 18. */
    private static Face readingNineteen() {
        Face x = Scene.twentyEntries();
        x.recover(1);
        Check.deliverFirst(x, 1, 1, 1, 5, 5, 5);
        return x;
    }

    private static void nineteenIsRead() {
        Face x = readingNineteen();
        Check.dueRecoverer(x, 1, 2, 1, 19, 0, 18);
        Check.due("flight()", x.flight(), 2);
        Check.dueMessage(x, 0, Check.READ, 1, 1, 19, 0, 1, 0);
        Check.dueLedger(x, 1, 1, -1);
    }

    private static void twentyBehindWritingBack() {
        Face x = readingNineteen();
        Check.deliverFirst(x, Check.READ);
        x.lose(0);
        Check.deliverFirst(x, Check.GOT);
        Check.dueRecoverer(x, 1, 3, 1, 19, 0, 18);
        Check.deliverFirst(x, Check.ADD);
        Check.due("deliver(1)", x.deliver(1), Check.ADDED);
        Check.dueRecoverer(x, 1, 4, 1, 19, 1, 18);
        Check.dueLedger(x, 2, 2, 19);
        Check.due("flight(), ADD and no READ", x.flight(), 1);
        Check.due("message(0, 0)", x.message(0, 0), Check.ADD);
    }

    /** ADD of entry 19 that is sent again when LAC is 19 brings the mark 19. */
    private static void twentyBehindFencing() {
        Face x = Check.counted(3, 2, 1, new int[19]);
        x.add(8);
        Check.passWithAnswer(x, Check.ADD, 1, Check.ADDED);
        x.lose(0);
        Check.due("resend(19)", x.resend(19), 1);
        Check.deliverFirst(x, Check.ADD);
        Check.loseAll(x);
        Check.due("store(2, 2)", x.store(2, 2), 19);
        x.recover(1);
        Check.deliverFirst(x, 1, 1, 1, 5, 5);
        Check.due("recoverer(1, 0)", x.recoverer(1, 0), 1);
        Check.deliverFirst(x, Check.FENCED);
        Check.dueRecoverer(x, 1, 4, 1, 0, 3, 19);
        Check.dueLedger(x, 2, 2, 19);
        Check.due("flight(), no READ", x.flight(), 0);
    }

    /** N 3, W 3, Q 1: store s has the MARK 0, the others -1. */
    private static Face oneMark(int s) {
        Face x = new Real(3, 3, 1);
        x.add(4);
        Check.passWithAnswer(x, Check.ADD, s, Check.ADDED);
        Check.loseAll(x);
        x.add(5);
        Check.pass(x, Check.ADD, s);
        Check.loseAll(x);
        x.recover(1);
        return x;
    }

    private static void greatestMarkFirst() {
        Face x = oneMark(0);
        Check.passWithAnswer(x, Check.FENCE, 0, Check.FENCED);
        Check.due("recoverer(1, 4)", x.recoverer(1, 4), 0);
        Check.passWithAnswer(x, Check.FENCE, 1, Check.FENCED);
        Check.due("recoverer(1, 4)", x.recoverer(1, 4), 0);
        Check.passWithAnswer(x, Check.FENCE, 2, Check.FENCED);
        Check.dueRecoverer(x, 1, 2, 1, 1, 0, 0);
    }

    private static void greatestMarkLast() {
        Face x = oneMark(2);
        Check.passWithAnswer(x, Check.FENCE, 0, Check.FENCED);
        Check.passWithAnswer(x, Check.FENCE, 1, Check.FENCED);
        Check.due("recoverer(1, 4)", x.recoverer(1, 4), -1);
        Check.passWithAnswer(x, Check.FENCE, 2, Check.FENCED);
        Check.dueRecoverer(x, 1, 2, 1, 1, 0, 0);
    }

    private static void noMarkAtAll() {
        Face x = new Real(3, 2, 1);
        x.recover(1);
        Check.due("recoverer(1, 4)", x.recoverer(1, 4), -1);
        Check.deliverFirst(x, 1, 1, 1, 5, 5, 5);
        Check.dueRecoverer(x, 1, 2, 1, 0, 0, -1);
    }

    private static void fencedTwice() {
        Face x = new Real(3, 2, 2);
        x.recover(1);
        x.retry(1);
        Check.passWithAnswer(x, Check.FENCE, 0, Check.FENCED);
        Check.passWithAnswer(x, Check.FENCE, 0, Check.FENCED);
        Check.dueRecoverer(x, 1, 1, 1, 0, 1, -1);
    }

    /** N, W and Q 3: FENCED with the MARK 0 comes from store 2 when store 0 was enough. */
    private static Face lateFenced() {
        Face x = Check.counted(3, 3, 3, 4);
        x.add(5);
        Check.pass(x, Check.ADD, 2);
        Check.loseAll(x);
        beginReading(x, 1);
        Check.pass(x, Check.FENCE, 2);
        Check.dueMessage(x, x.flight() - 1, Check.FENCED, 1, 2, 0, 0, 1, 0);
        return x;
    }

    private static void fencedWhileReading() {
        Face x = lateFenced();
        Check.pass(x, Check.FENCED, 2);
        Check.dueRecoverer(x, 1, 2, 1, 0, 0, -1);
    }

    private static void fencedWhileWritingBack() {
        Face x = lateFenced();
        Check.passWithAnswer(x, Check.READ, 0, Check.GOT);
        Check.pass(x, Check.FENCED, 2);
        Check.dueRecoverer(x, 1, 3, 1, 0, 0, -1);
    }

    private static void fencedWhenIdle() {
        Face x = Scene.fencing();
        Check.pass(x, Check.FENCE, 2);
        x.abandon(1);
        Check.pass(x, Check.FENCED, 2);
        Check.dueRecoverer(x, 1, 0, 1, 0, 2, 0);
        Check.due("flight(), FENCE to 3", x.flight(), 1);
    }

    private static void fencedWhenDone() {
        Face x = Scene.empty();
        beginReading(x, 1);
        Check.pass(x, Check.FENCE, 1);
        Check.passWithAnswer(x, Check.READ, 0, Check.MISSING);
        Check.dueRecoverer(x, 1, 4, 1, 0, 1, -1);
        Check.pass(x, Check.FENCED, 1);
        Check.dueRecoverer(x, 1, 4, 1, 0, 1, -1);
    }

    /** Every N, W, Q and every set of stores that answer, one behind the other. */
    private static void everySetAndNumber() {
        for (int n = 3; n <= 5; n++) {
            for (int w = 2; w <= n; w++) {
                for (int q = 1; q <= w; q++) {
                    for (int who = 1; who < 1 << n; who++) {
                        answerInTurn(n, w, q, who);
                    }
                }
            }
        }
    }

    private static void answerInTurn(int n, int w, int q, int who) {
        Face x = new Real(n, w, q);
        x.recover(1);
        boolean[] answered = new boolean[n];
        for (int s = 0; s < n && x.recoverer(1, 0) == 1; s++) {
            if ((who >> s) % 2 == 1) {
                Check.passWithAnswer(x, Check.FENCE, s, Check.FENCED);
                answered[s] = true;
                String what = "N " + n + ", W " + w + ", Q " + q + ", of " + who + ": state";
                Check.due(what, x.recoverer(1, 0), mostSilent(answered, w) < q ? 2 : 1);
            }
        }
    }

    private static int mostSilent(boolean[] answered, int w) {
        int most = 0;
        for (int e = 0; e < answered.length; e++) {
            int silent = 0;
            for (int j = 0; j < w; j++) {
                silent += answered[(e + j) % answered.length] ? 0 : 1;
            }
            most = Math.max(most, silent);
        }
        return most;
    }

    /** N 5, W 2, Q 2: the SET of one entry alone is silent. */
    private static void oneSetIsSilent() {
        for (int e = 0; e < 5; e++) {
            Face x = new Real(5, 2, 2);
            x.recover(1);
            for (int k = 2; k <= 4; k++) {
                Check.passWithAnswer(x, Check.FENCE, (e + k) % 5, Check.FENCED);
            }
            Check.dueRecoverer(x, 1, 1, 1, 0, 3, -1);
            Check.passWithAnswer(x, Check.FENCE, e, Check.FENCED);
            Check.dueRecoverer(x, 1, 2, 1, 0, 0, -1);
        }
    }

    private static void allMustAnswerWithQ1() {
        Face x = new Real(5, 3, 1);
        x.recover(1);
        for (int s = 0; s < 4; s++) {
            Check.passWithAnswer(x, Check.FENCE, s, Check.FENCED);
        }
        Check.dueRecoverer(x, 1, 1, 1, 0, 4, -1);
        Check.passWithAnswer(x, Check.FENCE, 4, Check.FENCED);
        Check.dueRecoverer(x, 1, 2, 1, 0, 0, -1);
    }

    private static void oneIsEnoughWithQOfN() {
        for (int s = 0; s < 5; s++) {
            Face x = new Real(5, 5, 5);
            x.recover(1);
            Check.passWithAnswer(x, Check.FENCE, s, Check.FENCED);
            Check.dueRecoverer(x, 1, 2, 1, 0, 0, -1);
        }
    }
}
