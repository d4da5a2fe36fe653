/** The document's 'Terms': what a recoverer hears while READING and WRITING BACK. */
public final class EdgesTermsReadingTest {
    public static void main(String[] args) {
        String got = "GOT (e) while READING, e being E: it is WRITING BACK, nobody has ANSWERED";
        Check.edge(got, EdgesTermsReadingTest::gotBehindMissing);
        Check.edge(got, EdgesTermsReadingTest::gotOfOtherEntry);
        Check.edge(got, EdgesTermsReadingTest::gotWhileWritingBack);
        Check.edge(got, EdgesTermsReadingTest::gotWhenIdle);
        Check.edge(got, EdgesTermsReadingTest::gotWhenDone);
        Check.edge("the mark e - 1", EdgesTermsReadingTest::markOfEntryZero);
        Check.edge("the mark e - 1", EdgesTermsReadingTest::markBeyondHighestMark);
        Check.edge("ADD of e with this value", EdgesTermsReadingTest::smallestAndLargestValue);
        String missing = "MISSING (e) while READING, e being E: the store has ANSWERED";
        Check.edge(missing, EdgesTermsReadingTest::missingTwice);
        Check.edge(missing, EdgesTermsReadingTest::missingOfOtherEntry);
        Check.edge(missing, EdgesTermsReadingTest::missingWhileWritingBack);
        Check.edge(missing, EdgesTermsReadingTest::missingWhenIdle);
        Check.edge(missing, EdgesTermsReadingTest::missingWhenDone);
        String enough = "if W - Q + 1 stores have, it FINISHES";
        Check.edge(enough, EdgesTermsReadingTest::everyNumberOfMissing);
        Check.edge(enough, EdgesTermsReadingTest::oneMissingWithQOfW);
        Check.edge(enough, EdgesTermsReadingTest::allMissingWithQ1);
        String added = "ADDED (e) while WRITING BACK, e being E: the store has ANSWERED";
        Check.edge(added, EdgesTermsReadingTest::addedTwice);
        Check.edge(added, EdgesTermsReadingTest::addedOfOtherEntry);
        Check.edge(added, EdgesTermsReadingTest::addedWhileReading);
        Check.edge(added, EdgesTermsReadingTest::addedWhenIdle);
        Check.edge("if Q stores have, it READS ON from e + 1",
                EdgesTermsReadingTest::everyNumberOfAdded);
        Check.end();
    }

    private static void gotBehindMissing() {
        Face x = Scene.reading();
        Check.due("recoverer(1, 3)", x.recoverer(1, 3), 1);
        int flight = x.flight();
        Check.passWithAnswer(x, Check.READ, 2, Check.GOT);
        Check.dueRecoverer(x, 1, 3, 1, 2, 0, 1);
        Check.due("flight()", x.flight(), flight + 2);
        Check.dueMessage(x, flight - 1, Check.ADD, 1, 2, 2, 52, 1, 1);
    }

    /**
     * N 3, W 3, Q 2: recoverer 1 is READING entry 1, which store 1 has as well; ADDED of entry 0
     * from store 2 and GOT of entry 0 from store 1 come late.
     */
    private static Face readingOne() {
        Face x = new Real(3, 3, 2);
        x.add(40);
        x.add(41);
        // ADD of 0 to 0, 1, 2, ADD of 1 to 1, 2, 0
        Check.deliverFirst(x, Check.ADD, Check.ADD);
        Check.due("deliver(1)", x.deliver(1), Check.ADD);
        Check.loseAll(x);
        x.recover(1);
        Check.deliverFirst(x, 1, 1, 1, 5, 5, 5, 2, 2, 2);
        Check.dueRecoverer(x, 1, 2, 1, 0, 0, -1);
        Check.pass(x, Check.GOT, 0);
        Check.passWithAnswer(x, Check.ADD, 0, Check.ADDED);
        Check.pass(x, Check.ADD, 2);
        Check.passWithAnswer(x, Check.ADD, 1, Check.ADDED);
        Check.dueRecoverer(x, 1, 2, 1, 1, 0, -1);
        return x;
    }

    private static void gotOfOtherEntry() {
        Face x = readingOne();
        int flight = x.flight();
        Check.pass(x, Check.GOT, 1);
        Check.dueRecoverer(x, 1, 2, 1, 1, 0, -1);
        Check.due("flight()", x.flight(), flight - 1);
    }

    private static void gotWhileWritingBack() {
        Face x = Scene.writingBack();
        Check.pass(x, Check.ADD, 0);
        // now store 0 has entry 2 as well, and READ to it is on its way
        int flight = x.flight();
        Check.passWithAnswer(x, Check.READ, 0, Check.GOT);
        Check.dueRecoverer(x, 1, 3, 1, 2, 1, 1);
        Check.due("flight()", x.flight(), flight - 1);
    }

    private static void gotWhenIdle() {
        Face x = Scene.reading();
        Check.pass(x, Check.READ, 2);
        x.abandon(1);
        int flight = x.flight();
        Check.pass(x, Check.GOT, 2);
        Check.dueRecoverer(x, 1, 0, 1, 2, 1, 1);
        Check.due("flight()", x.flight(), flight - 1);
    }

    private static void gotWhenDone() {
        Face x = Scene.onStoreZero(7);
        x.recover(1);
        Check.passWithAnswer(x, Check.FENCE, 1, Check.FENCED);
        Check.passWithAnswer(x, Check.READ, 1, Check.MISSING);
        Check.dueRecoverer(x, 1, 4, 1, 0, 1, -1);
        int flight = x.flight();
        Check.passWithAnswer(x, Check.READ, 0, Check.GOT);
        Check.dueRecoverer(x, 1, 4, 1, 0, 1, -1);
        Check.due("flight()", x.flight(), flight - 1);
        Check.dueLedger(x, 2, 2, -1);
    }

    /** N, W and Q 3, entry 0 on store 0 alone. */
    private static Face writingBackEntryZero(int value) {
        Face x = Scene.onStoreZero(value);
        x.recover(1);
        Check.passWithAnswer(x, Check.FENCE, 0, Check.FENCED);
        Check.passWithAnswer(x, Check.READ, 0, Check.GOT);
        return x;
    }

    private static void markOfEntryZero() {
        Face x = writingBackEntryZero(7);
        Check.dueMessage(x, x.flight() - 1, Check.ADD, 1, 2, 0, 7, 1, -1);
    }

    /** The highest MARK that it was told is -1, but entry 0 counts now. */
    private static void markBeyondHighestMark() {
        Face x = readingOne();
        Check.passWithAnswer(x, Check.READ, 1, Check.GOT);
        Check.due("recoverer(1, 4)", x.recoverer(1, 4), -1);
        Check.dueMessage(x, x.flight() - 1, Check.ADD, 1, 0, 1, 41, 1, 0);
    }

    private static void smallestAndLargestValue() {
        for (int value : new int[] {Integer.MIN_VALUE, -1, 0, Integer.MAX_VALUE}) {
            Face x = writingBackEntryZero(value);
            Check.due("its value", x.message(x.flight() - 1, 4), value);
            Check.deliverAll(x);
            x.power(0, false);
            Check.due("read(0) from store 1", x.read(0), value);
        }
    }

    /** READ is sent twice, so that one store answers MISSING twice. */
    private static void missingTwice() {
        Face x = new Real(3, 3, 2);
        x.recover(1);
        Check.deliverFirst(x, 1, 1, 1, 5, 5, 5);
        x.retry(1);
        Check.passWithAnswer(x, Check.READ, 1, Check.MISSING);
        Check.passWithAnswer(x, Check.READ, 1, Check.MISSING);
        Check.dueRecoverer(x, 1, 2, 1, 0, 1, -1);
        Check.dueLedger(x, 1, 1, -1);
    }

    /** N 3, W 3, Q 2: entry 0 is on store 0 alone; both others have answered MISSING to READ. */
    private static Face missingComesLate() {
        Face x = new Real(3, 3, 2);
        x.add(40);
        Check.deliverFirst(x, Check.ADD);
        Check.loseAll(x);
        x.recover(1);
        Check.deliverFirst(x, 1, 1, 1, 5, 5, 5, 2, 2, 2, 6);
        Check.dueRecoverer(x, 1, 3, 1, 0, 0, -1);
        return x;
    }

    private static void missingOfOtherEntry() {
        Face x = missingComesLate();
        Check.passWithAnswer(x, Check.ADD, 0, Check.ADDED);
        Check.passWithAnswer(x, Check.ADD, 1, Check.ADDED);
        Check.dueRecoverer(x, 1, 2, 1, 1, 0, -1);
        Check.deliverFirst(x, Check.MISSING, Check.MISSING);
        Check.dueRecoverer(x, 1, 2, 1, 1, 0, -1);
        Check.dueLedger(x, 1, 1, -1);
    }

    private static void missingWhileWritingBack() {
        Face x = missingComesLate();
        Check.deliverFirst(x, Check.MISSING, Check.MISSING);
        Check.dueRecoverer(x, 1, 3, 1, 0, 0, -1);
        Check.dueLedger(x, 1, 1, -1);
    }

    private static void missingWhenIdle() {
        Face x = Scene.reading();
        Check.pass(x, Check.READ, 0);
        x.abandon(1);
        Check.pass(x, Check.MISSING, 0);
        Check.dueRecoverer(x, 1, 0, 1, 2, 1, 1);
        Check.dueLedger(x, 1, 1, -1);
    }

    private static void missingWhenDone() {
        Face x = Scene.empty();
        x.recover(1);
        Check.passWithAnswer(x, Check.FENCE, 0, Check.FENCED);
        Check.passWithAnswer(x, Check.READ, 0, Check.MISSING);
        Check.passWithAnswer(x, Check.READ, 1, Check.MISSING);
        Check.dueRecoverer(x, 1, 4, 1, 0, 1, -1);
        Check.dueLedger(x, 2, 2, -1);
    }

    /** Every N, W and Q: READING as long as at most W - Q stores miss the entry. */
    private static void everyNumberOfMissing() {
        for (int n = 3; n <= 5; n++) {
            for (int w = 2; w <= n; w++) {
                for (int q = 1; q <= w; q++) {
                    missInTurn(n, w, q);
                }
            }
        }
    }

    private static void missInTurn(int n, int w, int q) {
        Face x = new Real(n, w, q);
        x.recover(1);
        for (int s = 0; s < n; s++) {
            Check.pass(x, Check.FENCE, s);
        }
        for (int s = 0; s < n; s++) {
            Check.pass(x, Check.FENCED, s);
        }
        for (int count = 1; count <= w; count++) {
            Check.passWithAnswer(x, Check.READ, count - 1, Check.MISSING);
            String what = "N " + n + ", W " + w + ", Q " + q + ", " + count + " missing: state";
            Check.due(what, x.recoverer(1, 0), count <= w - q ? 2 : 4);
            Check.due(what + " of the ledger", x.ledger(0), count <= w - q ? 1 : 2);
        }
    }

    private static void oneMissingWithQOfW() {
        Face x = new Real(4, 2, 2);
        x.recover(1);
        Check.deliverFirst(x, 1, 1, 1, 1, 5, 5, 5, 5);
        Check.dueRecoverer(x, 1, 2, 1, 0, 0, -1);
        Check.deliverFirst(x, Check.READ);
        Check.due("deliver(1)", x.deliver(1), Check.MISSING);
        Check.dueRecoverer(x, 1, 4, 1, 0, 1, -1);
    }

    private static void allMissingWithQ1() {
        Face x = new Real(4, 4, 1);
        x.recover(1);
        Check.deliverFirst(x, 1, 1, 1, 1, 5, 5, 5, 5, 2, 2, 2, 2, 7, 7, 7);
        Check.dueRecoverer(x, 1, 2, 1, 0, 3, -1);
        Check.deliverFirst(x, Check.MISSING);
        Check.dueRecoverer(x, 1, 4, 1, 0, 4, -1);
    }

    private static void addedTwice() {
        Face x = missingComesLate();
        x.retry(1);
        Check.passWithAnswer(x, Check.ADD, 1, Check.ADDED);
        Check.passWithAnswer(x, Check.ADD, 1, Check.ADDED);
        Check.dueRecoverer(x, 1, 3, 1, 0, 1, -1);
    }

    private static void addedOfOtherEntry() {
        Face x = readingOne();
        Check.passWithAnswer(x, Check.READ, 1, Check.GOT);
        Check.dueRecoverer(x, 1, 3, 1, 1, 0, -1);
        Check.pass(x, Check.ADDED, 2);
        Check.dueRecoverer(x, 1, 3, 1, 1, 0, -1);
    }

    private static void addedWhileReading() {
        Face x = readingOne();
        Check.pass(x, Check.ADDED, 2);
        Check.dueRecoverer(x, 1, 2, 1, 1, 0, -1);
    }

    private static void addedWhenIdle() {
        Face x = Scene.writingBack();
        Check.pass(x, Check.ADD, 0);
        x.abandon(1);
        int flight = x.flight();
        Check.pass(x, Check.ADDED, 0);
        Check.dueRecoverer(x, 1, 0, 1, 2, 1, 1);
        Check.due("flight()", x.flight(), flight - 1);
    }

    /** Every N, W and Q: WRITING BACK as long as fewer than Q stores have it. */
    private static void everyNumberOfAdded() {
        for (int n = 3; n <= 5; n++) {
            for (int w = 2; w <= n; w++) {
                for (int q = 1; q <= w; q++) {
                    answerWriteBackInTurn(n, w, q);
                }
            }
        }
    }

    private static void answerWriteBackInTurn(int n, int w, int q) {
        Face x = new Real(n, w, q);
        x.add(40);
        Check.deliverFirst(x, Check.ADD);
        Check.loseAll(x);
        x.recover(1);
        for (int s = 0; s < n; s++) {
            Check.pass(x, Check.FENCE, s);
        }
        for (int s = 0; s < n; s++) {
            Check.pass(x, Check.FENCED, s);
        }
        Check.passWithAnswer(x, Check.READ, 0, Check.GOT);
        for (int count = 1; count <= q; count++) {
            Check.passWithAnswer(x, Check.ADD, count - 1, Check.ADDED);
            String what = "N " + n + ", W " + w + ", Q " + q + ", " + count + " have it: ";
            Check.due(what + "state", x.recoverer(1, 0), count < q ? 3 : 2);
            Check.due(what + "E", x.recoverer(1, 2), count < q ? 0 : 1);
            Check.due(what + "ANSWERED", x.recoverer(1, 3), count < q ? count : 0);
        }
    }
}
