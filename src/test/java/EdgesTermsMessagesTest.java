/** The document's 'Terms': what ADD, FENCE and READ do at a store, one that is FENCED too. */
public final class EdgesTermsMessagesTest {
    public static void main(String[] args) {
        String refused = "if the client is the writer and the store is FENCED, it answers REFUSED"
                + " (e)";
        Check.edge(refused, EdgesTermsMessagesTest::fencedStoreRefuses);
        Check.edge(refused, EdgesTermsMessagesTest::fencedStoreKeepsNothing);
        Check.edge(refused, EdgesTermsMessagesTest::fencedStoreKeepsItsMark);
        Check.edge(refused, EdgesTermsMessagesTest::fencedStoreRefusesWhatItHas);
        Check.edge(refused, EdgesTermsMessagesTest::storeThatIsNotFencedTakesIt);
        String otherwise = "Otherwise the store has entry e with this value from then on";
        Check.edge(otherwise, EdgesTermsMessagesTest::fencedStoreTakesFromRecoverer);
        Check.edge(otherwise, EdgesTermsMessagesTest::writeBackDoesNotFence);
        Check.edge(otherwise, EdgesTermsMessagesTest::sameEntryTwice);
        String mark = "its MARK becomes mark, if that is more";
        Check.edge(mark, EdgesTermsMessagesTest::markThatIsMore);
        Check.edge(mark, EdgesTermsMessagesTest::markThatIsTheSame);
        Check.edge(mark, EdgesTermsMessagesTest::markThatIsLess);
        Check.edge(mark, EdgesTermsMessagesTest::markOfWriteBackOfEntryZero);
        Check.edge("ADDED (e, the same TERM)", EdgesTermsMessagesTest::addedCarriesTheTerm);
        Check.edge("it answers FENCED (its MARK, the same TERM)",
                EdgesTermsMessagesTest::fencedAlready);
        Check.edge("READ (kind 2; to a store; of entry e, with a TERM): the store is FENCED",
                EdgesTermsMessagesTest::readFences);
        Check.edge("it answers GOT (e, the value, the same TERM) if it has entry e",
                EdgesTermsMessagesTest::gotTheLastEntry);
        Check.edge("else MISSING (e, the same TERM)", EdgesTermsMessagesTest::missingTheFirstEntry);
        Check.edge("else MISSING (e, the same TERM)", EdgesTermsMessagesTest::missingTheLastEntry);
        Check.end();
    }

    /** N 3, W 3: entries 0 and 1 are counted, store 1 is FENCED, ADD of entry 2 is on its way. */
    private static Face storeOneFenced() {
        Face x = Check.counted(3, 3, 2, 5, 6);
        x.recover(1);
        Check.pass(x, Check.FENCE, 1);
        Check.loseAll(x);
        x.add(7);
        return x;
    }

    private static void fencedStoreRefuses() {
        Face x = storeOneFenced();
        Check.pass(x, Check.ADD, 1);
        Check.dueMessage(x, 2, Check.REFUSED, 0, 1, 2, 0, 0, 0);
    }

    private static void fencedStoreKeepsNothing() {
        Face x = storeOneFenced();
        Check.pass(x, Check.ADD, 1);
        Check.due("has(1, 2)", x.has(1, 2), false);
        Check.due("store(1, 3)", x.store(1, 3), 2);
    }

    private static void fencedStoreKeepsItsMark() {
        Face x = storeOneFenced();
        Check.due("the mark that comes", x.message(0, 6), 1);
        Check.due("store(1, 2)", x.store(1, 2), 0);
        Check.pass(x, Check.ADD, 1);
        Check.due("store(1, 2)", x.store(1, 2), 0);
    }

    private static void fencedStoreRefusesWhatItHas() {
        Face x = new Real(3, 2, 2);
        x.add(5);
        Check.pass(x, Check.ADD, 1);
        Check.loseAll(x);
        x.recover(1);
        Check.pass(x, Check.FENCE, 1);
        Check.loseAll(x);
        x.resend(0);
        Check.passWithAnswer(x, Check.ADD, 1, Check.REFUSED);
        Check.due("has(1, 0)", x.has(1, 0), true);
        Check.due("store(1, 3)", x.store(1, 3), 1);
        Check.dueWriter(x, 1, 1, -1);
    }

    private static void storeThatIsNotFencedTakesIt() {
        Face x = storeOneFenced();
        Check.passWithAnswer(x, Check.ADD, 2, Check.ADDED);
        Check.due("has(2, 2)", x.has(2, 2), true);
        Check.dueStore(x, 2, 1, 0, 1, 3);
        Check.dueWriter(x, 0, 3, 1);
    }

    private static void fencedStoreTakesFromRecoverer() {
        Face x = Scene.writingBack();
        Check.dueStore(x, 0, 1, 1, -1, 1);
        Check.passWithAnswer(x, Check.ADD, 0, Check.ADDED);
        Check.dueStore(x, 0, 1, 1, 1, 2);
        Check.due("has(0, 2)", x.has(0, 2), true);
    }

    private static void writeBackDoesNotFence() {
        Face x = writingBackEntryZero();
        Check.passWithAnswer(x, Check.ADD, 1, Check.ADDED);
        Check.dueStore(x, 1, 1, 0, -1, 1);
        Check.due("has(1, 0)", x.has(1, 0), true);
    }

    /** N, W and Q 3: only store 0 is FENCED. */
    private static Face writingBackEntryZero() {
        Face x = Scene.onStoreZero(7);
        x.recover(1);
        Check.passWithAnswer(x, Check.FENCE, 0, Check.FENCED);
        Check.passWithAnswer(x, Check.READ, 0, Check.GOT);
        Check.dueRecoverer(x, 1, 3, 1, 0, 0, -1);
        return x;
    }

    private static void sameEntryTwice() {
        Face x = new Real(3, 2, 1);
        x.add(5);
        x.resend(0);
        Check.passWithAnswer(x, Check.ADD, 0, Check.ADDED);
        Check.passWithAnswer(x, Check.ADD, 0, Check.ADDED);
        Check.due("store(0, 3)", x.store(0, 3), 1);
        x.close();
        Check.due("read(0)", x.read(0), 5);
    }

    /**
     * N 3, W 3, Q 1: store 1 gets entry 1 with mark 0 while ADD of entry 0 to it, with mark -1, is
     * on its way still.
     */
    private static Face zeroBehindOne() {
        Face x = new Real(3, 3, 1);
        x.add(4);
        Check.passWithAnswer(x, Check.ADD, 2, Check.ADDED);
        Check.pass(x, Check.ADD, 0);
        x.add(5);
        Check.due("store(1, 2)", x.store(1, 2), -1);
        // ADD of 0 to store 1, ADDED from store 0, ADD of 1 to stores 1, 2, 0
        Check.dueMessage(x, 2, Check.ADD, 0, 1, 1, 5, 0, 0);
        Check.due("deliver(2)", x.deliver(2), Check.ADD);
        return x;
    }

    private static void markThatIsMore() {
        Face x = zeroBehindOne();
        Check.due("store(1, 2)", x.store(1, 2), 0);
    }

    private static void markThatIsTheSame() {
        Face x = zeroBehindOne();
        Check.loseAll(x);
        x.resend(1);
        Check.dueMessage(x, 0, Check.ADD, 0, 1, 1, 5, 0, 0);
        Check.deliverFirst(x, Check.ADD);
        Check.due("store(1, 2)", x.store(1, 2), 0);
    }

    private static void markThatIsLess() {
        Face x = zeroBehindOne();
        Check.dueMessage(x, 0, Check.ADD, 0, 1, 0, 4, 0, -1);
        Check.deliverFirst(x, Check.ADD);
        Check.due("store(1, 2)", x.store(1, 2), 0);
        Check.due("store(1, 3)", x.store(1, 3), 2);
    }

    private static void markOfWriteBackOfEntryZero() {
        Face x = writingBackEntryZero();
        Check.pass(x, Check.ADD, 0);
        Check.due("store(0, 2)", x.store(0, 2), -1);
    }

    private static void addedCarriesTheTerm() {
        Face x = writingBackEntryZero();
        Check.pass(x, Check.ADD, 2);
        Check.dueMessage(x, x.flight() - 1, Check.ADDED, 1, 2, 0, 0, 1, 0);
    }

    private static void fencedAlready() {
        Face x = Check.counted(3, 2, 2, 5, 6);
        x.recover(1);
        Check.pass(x, Check.FENCE, 1);
        Check.loseAll(x);
        x.recover(2);
        Check.pass(x, Check.FENCE, 1);
        Check.dueMessage(x, 2, Check.FENCED, 2, 1, 0, 0, 2, 0);
        Check.due("store(1, 1)", x.store(1, 1), 1);
    }

    private static void readFences() {
        Face x = Scene.empty();
        x.recover(1);
        Check.passWithAnswer(x, Check.FENCE, 0, Check.FENCED);
        Check.due("store(2, 1)", x.store(2, 1), 0);
        Check.pass(x, Check.READ, 2);
        Check.due("store(2, 1)", x.store(2, 1), 1);
        x.add(5);
        Check.passWithAnswer(x, Check.ADD, 2, Check.REFUSED);
    }

    /** N 3, W 2, Q 1: the last of 20 entries is on stores 1 and 2. */
    private static void gotTheLastEntry() {
        Face x = Scene.twentyEntries();
        x.recover(1);
        Check.deliverFirst(x, 1, 1, 1, 5, 5, 5);
        Check.dueMessage(x, 0, Check.READ, 1, 1, 19, 0, 1, 0);
        Check.deliverFirst(x, Check.READ);
        Check.dueMessage(x, 1, Check.GOT, 1, 1, 19, 89, 1, 0);
    }

    private static void missingTheFirstEntry() {
        Face x = new Real(3, 3, 1);
        x.add(5);
        Check.pass(x, Check.ADD, 1);
        Check.loseAll(x);
        x.recover(2);
        Check.deliverFirst(x, 1, 1, 1, 5, 5, 5);
        Check.deliverFirst(x, Check.READ, Check.READ, Check.READ);
        Check.dueMessage(x, 0, Check.MISSING, 2, 0, 0, 0, 1, 0);
        Check.dueMessage(x, 1, Check.GOT, 2, 1, 0, 5, 1, 0);
        Check.dueMessage(x, 2, Check.MISSING, 2, 2, 0, 0, 1, 0);
    }

    private static void missingTheLastEntry() {
        Face x = Check.counted(3, 2, 1, new int[19]);
        x.add(9);
        Check.pass(x, Check.ADD, 1);
        Check.loseAll(x);
        x.recover(1);
        Check.deliverFirst(x, 1, 1, 1, 5, 5, 5);
        Check.dueRecoverer(x, 1, 2, 1, 19, 0, 18);
        Check.deliverFirst(x, Check.READ, Check.READ);
        Check.dueMessage(x, 0, Check.GOT, 1, 1, 19, 9, 1, 0);
        Check.dueMessage(x, 1, Check.MISSING, 1, 2, 19, 0, 1, 0);
    }
}
