/** The document's 'Terms': stores, entries and the SET of an entry. */
public final class EdgesTermsStoresTest {
    public static void main(String[] args) {
        Check.edge("STORES are 0 .. N - 1", EdgesTermsStoresTest::firstAndLastStore);
        Check.edge("all are UP at first", EdgesTermsStoresTest::allUpAtFirst);
        Check.edge("ENTRIES are numbered 0, 1, .., at most 20",
                EdgesTermsStoresTest::twentyEntries);
        Check.edge("each with a value", EdgesTermsStoresTest::smallestAndLargestValue);
        String set = "The SET of entry e are the stores (e + j) % N for j = 0 .. W - 1.";
        Check.edge(set, EdgesTermsStoresTest::addWrapsAround);
        Check.edge(set, EdgesTermsStoresTest::resendWrapsAround);
        Check.edge(set, EdgesTermsStoresTest::fencingWrapsAround);
        Check.edge(set, EdgesTermsStoresTest::readingWrapsAround);
        Check.edge(set, EdgesTermsStoresTest::writingBackWrapsAround);
        Check.edge(set, EdgesTermsStoresTest::readWrapsAround);
        Check.edge("N 3 .. 5, W 2 .. N and Q 1 .. W", EdgesTermsStoresTest::smallestNumbers);
        Check.edge("N 3 .. 5, W 2 .. N and Q 1 .. W", EdgesTermsStoresTest::largestNumbers);
        String keeps = "A store keeps, also when it is not UP: ";
        Check.edge(keeps + "which entries it has", EdgesTermsStoresTest::keepsEntries);
        Check.edge(keeps + "with their values", EdgesTermsStoresTest::keepsValues);
        Check.edge(keeps + "whether it is FENCED", EdgesTermsStoresTest::keepsFenced);
        Check.edge("FENCED, at first not", EdgesTermsStoresTest::notFencedAtFirst);
        Check.edge(keeps + "and a MARK", EdgesTermsStoresTest::keepsMark);
        Check.edge("a MARK, at first -1", EdgesTermsStoresTest::markAtFirst);
        Check.end();
    }

    private static void firstAndLastStore() {
        for (int n = 3; n <= 5; n++) {
            Face x = new Real(n, 2, 1);
            Check.due("store(-1, 0)", x.store(-1, 0), FencedLedger.NONE);
            Check.due("store(0, 0)", x.store(0, 0), 1);
            Check.due("store(N - 1, 0)", x.store(n - 1, 0), 1);
            Check.due("store(N, 0)", x.store(n, 0), FencedLedger.NONE);
            x.recover(1);
            Check.due("flight(), a FENCE for each", x.flight(), n);
            Check.due("the last store", x.message(n - 1, 2), n - 1);
        }
    }

    private static void allUpAtFirst() {
        for (int n = 3; n <= 5; n++) {
            Face x = new Real(n, 2, 1);
            for (int s = 0; s < n; s++) {
                Check.due("store(" + s + ", 0)", x.store(s, 0), 1);
            }
        }
    }

    private static void twentyEntries() {
        Face x = new Real(3, 2, 1);
        for (int e = 0; e < 20; e++) {
            Check.due("add of entry " + e, x.add(100 + e), e);
            Check.deliverAll(x);
        }
        Check.dueThrow("add of entry 20", IndexOutOfBoundsException.class, () -> x.add(120));
        Check.dueWriter(x, 0, 20, 19);
        x.close();
        for (int e = 0; e < 20; e++) {
            Check.due("read(" + e + ")", x.read(e), 100 + e);
        }
    }

    private static void smallestAndLargestValue() {
        int[] values = {Integer.MIN_VALUE, -1, 0, Integer.MAX_VALUE};
        Face x = Check.counted(3, 2, 2, values);
        x.close();
        for (int e = 0; e < 4; e++) {
            Check.due("read(" + e + ")", x.read(e), values[e]);
        }
    }

    private static void addWrapsAround() {
        for (int n = 3; n <= 5; n++) {
            for (int w = 2; w <= n; w++) {
                addsGoTo(n, w);
            }
        }
    }

    private static void addsGoTo(int n, int w) {
        Face x = new Real(n, w, 1);
        for (int e = 0; e < 20; e++) {
            x.add(e);
            for (int j = 0; j < w; j++) {
                int want = e + j;
                while (want >= n) {
                    want -= n;
                }
                Check.due("N " + n + ": store " + j + " of entry " + e, x.message(j, 2), want);
            }
            Check.due("N " + n + ", W " + w + ": flight()", x.flight(), w);
            Check.deliverAll(x);
        }
    }

    private static void resendWrapsAround() {
        Face x = Check.counted(3, 2, 2, 5, 6);
        x.add(7);
        Check.loseAll(x);
        Check.due("resend(2)", x.resend(2), 2);
        Check.dueMessage(x, 0, Check.ADD, 0, 2, 2, 7);
        Check.dueMessage(x, 1, Check.ADD, 0, 0, 2, 7);
    }

    /** N 5, W 2, Q 2: the SET of entry 4 is 4 and 0, and these alone are silent. */
    private static void fencingWrapsAround() {
        Face x = new Real(5, 2, 2);
        x.recover(1);
        for (int s = 1; s <= 3; s++) {
            Check.passWithAnswer(x, Check.FENCE, s, Check.FENCED);
        }
        Check.dueRecoverer(x, 1, 1, 1, 0, 3, -1);
        Check.passWithAnswer(x, Check.FENCE, 4, Check.FENCED);
        Check.dueRecoverer(x, 1, 2, 1, 0, 0, -1);
    }

    /** N 4, W 3: the SET of entry 3 is 3, 0, 1; store 0 alone has it. */
    private static Face entryThree() {
        Face x = Check.counted(4, 3, 2, 5, 6, 7);
        x.add(8);
        Check.pass(x, Check.ADD, 0);
        Check.loseAll(x);
        x.recover(1);
        Check.deliverFirst(x, 1, 1, 1, 1, 5, 5, 5, 5);
        Check.dueRecoverer(x, 1, 2, 1, 3, 0, 2);
        return x;
    }

    private static void readingWrapsAround() {
        Face x = entryThree();
        Check.due("flight()", x.flight(), 3);
        Check.dueMessage(x, 0, Check.READ, 1, 3, 3);
        Check.dueMessage(x, 1, Check.READ, 1, 0, 3);
        Check.dueMessage(x, 2, Check.READ, 1, 1, 3);
    }

    private static void writingBackWrapsAround() {
        Face x = entryThree();
        Check.passWithAnswer(x, Check.READ, 0, Check.GOT);
        Check.due("flight()", x.flight(), 5);
        Check.dueMessage(x, 2, Check.ADD, 1, 3, 3, 8);
        Check.dueMessage(x, 3, Check.ADD, 1, 0, 3, 8);
        Check.dueMessage(x, 4, Check.ADD, 1, 1, 3, 8);
    }

    /** N 3, W 2: the SET of entry 2 is 2 and 0. */
    private static void readWrapsAround() {
        Face x = Check.counted(3, 2, 2, 5, 6, 7);
        x.close();
        x.power(2, false);
        Check.due("read(2) from store 0", x.read(2), 7);
        x.power(0, false);
        Check.dueThrow("read(2)", UnsupportedOperationException.class, () -> x.read(2));
    }

    private static void smallestNumbers() {
        Face x = new Real(3, 2, 1);
        x.add(9);
        Check.due("flight() with W 2", x.flight(), 2);
        Check.deliverFirst(x, Check.ADD, Check.ADD, Check.ADDED);
        Check.due("LAC after one answer", x.writer(2), 0);
        Check.due("store(3, 0)", x.store(3, 0), FencedLedger.NONE);
    }

    private static void largestNumbers() {
        Face x = new Real(5, 5, 5);
        x.add(9);
        Check.due("flight() with W 5", x.flight(), 5);
        Check.deliverFirst(x, 0, 0, 0, 0, 0, 3, 3, 3, 3);
        Check.due("LAC after four answers", x.writer(2), -1);
        Check.deliverFirst(x, Check.ADDED);
        Check.due("LAC after five answers", x.writer(2), 0);
        Check.due("store(4, 0)", x.store(4, 0), 1);
    }

    private static void keepsEntries() {
        Face x = Check.counted(3, 2, 2, 5, 6);
        x.power(1, false);
        Check.due("has(1, 0) when down", x.has(1, 0), true);
        Check.due("has(1, 1) when down", x.has(1, 1), true);
        Check.due("store(1, 3) when down", x.store(1, 3), 2);
        x.power(1, true);
        Check.due("has(1, 0) when UP again", x.has(1, 0), true);
        Check.due("store(1, 3) when UP again", x.store(1, 3), 2);
    }

    private static void keepsValues() {
        Face x = Check.counted(3, 2, 2, 5, 6);
        x.close();
        x.power(0, false);
        x.power(1, false);
        x.power(1, true);
        Check.due("read(0) from store 1", x.read(0), 5);
        x.power(2, false);
        Check.due("read(1) from store 1", x.read(1), 6);
    }

    private static void keepsFenced() {
        Face x = new Real(3, 2, 2);
        x.recover(1);
        Check.pass(x, Check.FENCE, 1);
        x.power(1, false);
        Check.due("store(1, 1) when down", x.store(1, 1), 1);
        x.power(1, true);
        Check.due("store(1, 1) when UP again", x.store(1, 1), 1);
        x.add(9);
        Check.passWithAnswer(x, Check.ADD, 1, Check.REFUSED);
    }

    private static void notFencedAtFirst() {
        Face x = new Real(5, 5, 1);
        for (int s = 0; s < 5; s++) {
            Check.due("store(" + s + ", 1)", x.store(s, 1), 0);
        }
        x.add(9);
        for (int s = 0; s < 5; s++) {
            Check.passWithAnswer(x, Check.ADD, s, Check.ADDED);
            Check.due("store(" + s + ", 1)", x.store(s, 1), 0);
        }
    }

    private static void keepsMark() {
        Face x = Check.counted(3, 2, 2, 5, 6);
        Check.due("store(1, 2)", x.store(1, 2), 0);
        x.power(1, false);
        Check.due("store(1, 2) when down", x.store(1, 2), 0);
        x.power(1, true);
        Check.due("store(1, 2) when UP again", x.store(1, 2), 0);
        x.recover(1);
        Check.pass(x, Check.FENCE, 1);
        Check.dueMessage(x, 2, Check.FENCED, 1, 1, 0, 0);
    }

    private static void markAtFirst() {
        Face x = new Real(5, 2, 1);
        for (int s = 0; s < 5; s++) {
            Check.due("store(" + s + ", 2)", x.store(s, 2), -1);
        }
        x.recover(1);
        for (int s = 0; s < 5; s++) {
            Check.pass(x, Check.FENCE, s);
            Check.dueMessage(x, 4, Check.FENCED, 1, s, 0, -1);
        }
    }
}
