/** The document's 'Terms': what the writer hears, and when its LAC grows. */
public final class EdgesTermsWriterTest {
    public static void main(String[] args) {
        Check.edge("WRITING (0, at first)", EdgesTermsWriterTest::writingAtFirst);
        Check.edge("It has a LAC, at first -1", EdgesTermsWriterTest::lacAtFirst);
        String one = "the store is one of those for e";
        Check.edge(one, EdgesTermsWriterTest::oneStoreCountsOnce);
        Check.edge(one, EdgesTermsWriterTest::countsBeyondQ);
        String enough = "Q stores or more have answered ADDED to it, LAC grows by 1";
        Check.edge(enough, EdgesTermsWriterTest::oneFewerThanQ);
        Check.edge(enough, EdgesTermsWriterTest::exactlyQ);
        Check.edge(enough, EdgesTermsWriterTest::moreThanQ);
        Check.edge("as long as", EdgesTermsWriterTest::growsOverSeveral);
        Check.edge("as long as", EdgesTermsWriterTest::stopsBeforeGap);
        Check.edge("as long as entry LAC + 1 was added", EdgesTermsWriterTest::stopsAtLastAdded);
        Check.edge("as long as entry LAC + 1 was added", EdgesTermsWriterTest::stopsAtNineteen);
        Check.edge("While WRITING", EdgesTermsWriterTest::addedWhenOthersRecover);
        Check.edge("While WRITING", EdgesTermsWriterTest::addedWhenOthersClosed);
        Check.edge("REFUSED: it is STOPPED.", EdgesTermsWriterTest::oneRefusedStops);
        Check.edge("REFUSED: it is STOPPED.", EdgesTermsWriterTest::refusedOfOldEntryStops);
        String nothing = "At other times it hears nothing.";
        Check.edge(nothing, EdgesTermsWriterTest::addedWhenStopped);
        Check.edge(nothing, EdgesTermsWriterTest::addedWhenDone);
        Check.edge(nothing, EdgesTermsWriterTest::addedWhenGone);
        Check.edge(nothing, EdgesTermsWriterTest::refusedWhenStopped);
        Check.edge(nothing, EdgesTermsWriterTest::refusedWhenGone);
        Check.end();
    }

    private static void writingAtFirst() {
        Face x = new Real(3, 2, 1);
        Check.due("writer(0)", x.writer(0), 0);
        Check.due("add", x.add(1), 0);
    }

    private static void lacAtFirst() {
        Face x = new Real(3, 2, 1);
        Check.due("writer(2)", x.writer(2), -1);
        x.add(1);
        Check.due("the mark of the first ADD", x.message(0, 6), -1);
        Check.due("writer(2)", x.writer(2), -1);
    }

    private static void oneStoreCountsOnce() {
        Face x = new Real(3, 2, 2);
        x.add(1);
        x.resend(0);
        Check.passWithAnswer(x, Check.ADD, 0, Check.ADDED);
        Check.passWithAnswer(x, Check.ADD, 0, Check.ADDED);
        Check.due("answers(0)", x.answers(0), 1);
        Check.due("writer(2)", x.writer(2), -1);
    }

    private static void countsBeyondQ() {
        Face x = new Real(3, 3, 1);
        x.add(1);
        Check.deliverAll(x);
        Check.due("answers(0)", x.answers(0), 3);
        Check.due("writer(2)", x.writer(2), 0);
    }

    /** As many ADDED to entry 0 as told, of five stores. */
    private static Face answered(int q, int count) {
        Face x = new Real(5, 5, q);
        x.add(1);
        for (int s = 0; s < count; s++) {
            Check.passWithAnswer(x, Check.ADD, s, Check.ADDED);
        }
        Check.due("answers(0)", x.answers(0), count);
        return x;
    }

    private static void oneFewerThanQ() {
        for (int q = 1; q <= 5; q++) {
            Check.due("LAC with Q " + q, answered(q, q - 1).writer(2), -1);
        }
    }

    private static void exactlyQ() {
        for (int q = 1; q <= 5; q++) {
            Check.due("LAC with Q " + q, answered(q, q).writer(2), 0);
        }
    }

    private static void moreThanQ() {
        for (int q = 1; q <= 4; q++) {
            Check.due("LAC with Q " + q, answered(q, q + 1).writer(2), 0);
        }
        // the last answer finds more than Q at entry 1
        Face x = new Real(3, 3, 2);
        x.add(1);
        x.add(2);
        x.lose(0);
        x.lose(0);
        x.lose(0);
        Check.deliverAll(x);
        Check.due("answers(1)", x.answers(1), 3);
        Check.due("writer(2)", x.writer(2), -1);
        x.resend(0);
        Check.deliverAll(x);
        Check.due("writer(2)", x.writer(2), 1);
    }

    private static Face fourWithoutEntryZero() {
        Face x = new Real(3, 2, 2);
        for (int e = 0; e < 4; e++) {
            x.add(e);
        }
        x.lose(0);
        x.lose(0);
        return x;
    }

    private static void growsOverSeveral() {
        Face x = fourWithoutEntryZero();
        Check.deliverAll(x);
        Check.dueWriter(x, 0, 4, -1);
        x.resend(0);
        Check.deliverFirst(x, Check.ADD, Check.ADD, Check.ADDED);
        Check.dueWriter(x, 0, 4, -1);
        Check.deliverFirst(x, Check.ADDED);
        Check.dueWriter(x, 0, 4, 3);
    }

    private static void stopsBeforeGap() {
        Face x = fourWithoutEntryZero();
        // entry 2 goes missing, too
        x.lose(2);
        x.lose(2);
        Check.deliverAll(x);
        x.resend(0);
        Check.deliverAll(x);
        Check.dueWriter(x, 0, 4, 1);
        Check.due("answers(3)", x.answers(3), 2);
        x.resend(2);
        Check.deliverAll(x);
        Check.dueWriter(x, 0, 4, 3);
    }

    private static void stopsAtLastAdded() {
        Face x = new Real(3, 2, 1);
        x.add(1);
        Check.deliverAll(x);
        Check.dueWriter(x, 0, 1, 0);
        x.add(2);
        Check.dueWriter(x, 0, 2, 0);
        Check.due("the mark of ADD", x.message(0, 6), 0);
    }

    private static void stopsAtNineteen() {
        Face x = Scene.twentyEntries();
        Check.dueWriter(x, 0, 20, 19);
        Check.due("close()", x.close(), true);
        Check.due("ledger(2)", x.ledger(2), 19);
    }

    private static void addedWhenOthersRecover() {
        Face x = new Real(3, 3, 3);
        x.add(5);
        Check.deliverFirst(x, Check.ADD, Check.ADD, Check.ADD);
        x.recover(1);
        Check.deliverFirst(x, Check.ADDED, Check.ADDED, Check.ADDED);
        Check.dueWriter(x, 0, 1, 0);
        Check.due("answers(0)", x.answers(0), 3);
    }

    /** ADDED comes behind all that recoverer 1 did. */
    private static void addedWhenOthersClosed() {
        Face x = new Real(3, 3, 3);
        x.add(5);
        Check.deliverFirst(x, Check.ADD, Check.ADD, Check.ADD);
        x.recover(1);
        int turns = 0;
        while (x.ledger(0) != 2 && turns < 40) {
            x.deliver(3);
            turns++;
        }
        Check.dueLedger(x, 2, 2, 0);
        Check.deliverFirst(x, Check.ADDED, Check.ADDED, Check.ADDED);
        Check.dueWriter(x, 0, 1, 0);
        Check.due("answers(0)", x.answers(0), 3);
        Check.dueLedger(x, 2, 2, 0);
    }

    /** N 3, W 3, Q 2: one REFUSED and two ADDED to entry 0 are on their way, in this order. */
    private static Face refusedAndAdded() {
        Face x = new Real(3, 3, 2);
        x.recover(1);
        Check.pass(x, Check.FENCE, 0);
        Check.loseAll(x);
        x.add(5);
        Check.deliverFirst(x, Check.ADD, Check.ADD, Check.ADD);
        return x;
    }

    private static void oneRefusedStops() {
        Face x = refusedAndAdded();
        Check.due("writer(0)", x.writer(0), 0);
        Check.deliverFirst(x, Check.REFUSED);
        Check.dueWriter(x, 1, 1, -1);
    }

    private static void refusedOfOldEntryStops() {
        Face x = refusedAndAdded();
        Check.pass(x, Check.ADDED, 1);
        Check.pass(x, Check.ADDED, 2);
        Check.dueWriter(x, 0, 1, 0);
        Check.deliverFirst(x, Check.REFUSED);
        Check.dueWriter(x, 1, 1, 0);
    }

    private static void hearsTwoAdded(Face x, int state) {
        Check.pass(x, Check.ADDED, 1);
        Check.pass(x, Check.ADDED, 2);
        Check.dueWriter(x, state, 1, -1);
        Check.due("answers(0)", x.answers(0), 0);
    }

    private static void addedWhenStopped() {
        Face x = refusedAndAdded();
        Check.deliverFirst(x, Check.REFUSED);
        hearsTwoAdded(x, 1);
    }

    private static void addedWhenDone() {
        Face x = new Real(3, 3, 2);
        x.add(5);
        Check.deliverFirst(x, Check.ADD, Check.ADD, Check.ADD);
        x.close();
        hearsTwoAdded(x, 2);
        Check.dueLedger(x, 2, 1, -1);
    }

    private static void addedWhenGone() {
        Face x = refusedAndAdded();
        x.leave();
        hearsTwoAdded(x, 3);
    }

    private static void refusedWhenStopped() {
        Face x = refusedAndAdded();
        x.resend(0);
        Check.deliverFirst(x, Check.REFUSED);
        Check.passWithAnswer(x, Check.ADD, 0, Check.REFUSED);
        Check.dueWriter(x, 1, 1, -1);
    }

    private static void refusedWhenGone() {
        Face x = refusedAndAdded();
        x.leave();
        Check.deliverFirst(x, Check.REFUSED);
        Check.dueWriter(x, 3, 1, -1);
    }
}
