/** The document's 'Terms': how a recoverer FINISHES, also one whose TERM the ledger has left. */
public final class EdgesTermsFinishTest {
    public static void main(String[] args) {
        String closes = "the ledger becomes CLOSED with E - 1 as its LAST";
        Check.edge(closes, EdgesTermsFinishTest::closesWithNone);
        Check.edge(closes, EdgesTermsFinishTest::closesBehindEntry);
        String twenty = "(with e - 1, if it finishes instead of reading on from e)";
        Check.edge(twenty, EdgesTermsFinishTest::closesAtNineteenBehindWritingBack);
        Check.edge(twenty, EdgesTermsFinishTest::closesAtNineteenBehindFencing);
        Check.edge("its VERSION grows by 1", EdgesTermsFinishTest::versionGrowsOnce);
        String term = "if the ledger is RECOVERING and its VERSION is the recoverer's TERM";
        Check.edge(term, EdgesTermsFinishTest::otherTermWhileRecovering);
        Check.edge(term, EdgesTermsFinishTest::otherTermWhenClosed);
        Check.edge(term, EdgesTermsFinishTest::otherTermAtTwentyWhileRecovering);
        Check.edge(term, EdgesTermsFinishTest::otherTermAtTwentyWhenClosed);
        Check.edge(term, EdgesTermsFinishTest::otherGaveUp);
        String then = "Then the recoverer is DONE if the ledger is CLOSED, else IDLE.";
        Check.edge(then, EdgesTermsFinishTest::doneWhenItClosed);
        Check.edge(then, EdgesTermsFinishTest::doneWhenOtherClosed);
        Check.edge(then, EdgesTermsFinishTest::idleCanBeginAgain);
        Check.end();
    }

    private static void closesWithNone() {
        Face x = new Real(3, 2, 2);
        x.recover(1);
        Check.deliverAll(x);
        Check.dueLedger(x, 2, 2, -1);
        Check.due("recoverer(1, 2)", x.recoverer(1, 2), 0);
    }

    private static void closesBehindEntry() {
        Face x = Scene.recovered();
        Check.due("recoverer(1, 2)", x.recoverer(1, 2), 3);
        Check.due("ledger(2)", x.ledger(2), 2);
        Check.due("read(2)", x.read(2), 52);
        Check.dueThrow("read(3)", IndexOutOfBoundsException.class, () -> x.read(3));
    }

    /** N 3, W 2, Q 1: recoverer 1 writes entry 19 back; one ADDED to it is on its way, alone. */
    private static Face addedNineteen() {
        Face x = Scene.twentyEntries();
        x.recover(1);
        Check.deliverFirst(x, 1, 1, 1, 5, 5, 5, Check.READ);
        x.lose(0);
        Check.deliverFirst(x, Check.GOT);
        x.lose(1);
        Check.deliverFirst(x, Check.ADD);
        Check.dueRecoverer(x, 1, 3, 1, 19, 0, 18);
        Check.due("flight()", x.flight(), 1);
        return x;
    }

    private static void closesAtNineteenBehindWritingBack() {
        Face x = addedNineteen();
        Check.deliverFirst(x, Check.ADDED);
        Check.dueLedger(x, 2, 2, 19);
        Check.due("read(19)", x.read(19), 89);
    }

    /** ADD of entry 19 that is sent again when LAC is 19 brings the mark 19. */
    private static void closesAtNineteenBehindFencing() {
        Face x = Check.counted(3, 2, 1, new int[19]);
        x.add(7);
        Check.passWithAnswer(x, Check.ADD, 2, Check.ADDED);
        x.resend(19);
        Check.due("the mark", x.message(1, 6), 19);
        Check.deliverAll(x);
        x.recover(2);
        Check.deliverAll(x);
        Check.due("recoverer(2, 4)", x.recoverer(2, 4), 19);
        Check.due("E, as it was", x.recoverer(2, 2), 0);
        Check.dueLedger(x, 2, 2, 19);
        Check.due("read(19)", x.read(19), 7);
    }

    private static void versionGrowsOnce() {
        Face x = new Real(3, 3, 3);
        x.recover(1);
        Check.deliverFirst(x, 1, 1, 1, 5, 5, 5, 2, 2, 2);
        Check.due("ledger(1)", x.ledger(1), 1);
        Check.deliverFirst(x, Check.MISSING);
        Check.due("ledger(1)", x.ledger(1), 2);
        Check.deliverFirst(x, Check.MISSING, Check.MISSING);
        Check.due("ledger(1)", x.ledger(1), 2);
    }

    /** N, W and Q 3: MISSING for recoverer 1 is on its way when recoverer 2 begins. */
    private static Face otherBegins() {
        Face x = Scene.empty();
        x.recover(1);
        Check.passWithAnswer(x, Check.FENCE, 0, Check.FENCED);
        Check.pass(x, Check.READ, 0);
        Check.loseAllBut(x, Check.MISSING);
        x.recover(2);
        Check.dueLedger(x, 1, 2, -1);
        return x;
    }

    private static void otherTermWhileRecovering() {
        Face x = otherBegins();
        Check.pass(x, Check.MISSING, 0);
        Check.dueLedger(x, 1, 2, -1);
        Check.dueRecoverer(x, 1, 0, 1, 0, 1, -1);
        Check.dueRecoverer(x, 2, 1, 2, 0, 0, -1);
    }

    /** Recoverer 2 finds entry 0, which came to a store that recoverer 1 did not fence. */
    private static Face otherClosed() {
        Face x = otherBegins();
        x.add(9);
        Check.pass(x, Check.ADD, 1);
        Check.passWithAnswer(x, Check.FENCE, 1, Check.FENCED);
        Check.passWithAnswer(x, Check.READ, 1, Check.GOT);
        int turns = 0;
        while (x.ledger(0) != 2 && turns < 40) {
            x.deliver(1);
            turns++;
        }
        Check.dueLedger(x, 2, 3, 0);
        Check.dueRecoverer(x, 2, 4, 2, 1, 1, -1);
        Check.due("message(0, 0)", x.message(0, 0), Check.MISSING);
        return x;
    }

    private static void otherTermWhenClosed() {
        Face x = otherClosed();
        Check.deliverFirst(x, Check.MISSING);
        Check.dueLedger(x, 2, 3, 0);
    }

    private static void otherTermAtTwentyWhileRecovering() {
        Face x = addedNineteen();
        x.recover(2);
        Check.deliverFirst(x, Check.ADDED);
        Check.dueLedger(x, 1, 2, -1);
        Check.due("recoverer(1, 0)", x.recoverer(1, 0), 0);
        Check.due("flight(), FENCE alone", x.flight(), 3);
    }

    private static void otherTermAtTwentyWhenClosed() {
        Face x = addedNineteen();
        x.recover(2);
        int turns = 0;
        while (x.ledger(0) != 2 && turns < 40) {
            x.deliver(1);
            turns++;
        }
        Check.dueLedger(x, 2, 3, 19);
        Check.deliverFirst(x, Check.ADDED);
        Check.dueLedger(x, 2, 3, 19);
        Check.due("recoverer(1, 0)", x.recoverer(1, 0), 4);
    }

    /** That recoverer 2 gave up does not bring the old VERSION back. */
    private static void otherGaveUp() {
        Face x = otherBegins();
        x.abandon(2);
        Check.pass(x, Check.MISSING, 0);
        Check.dueLedger(x, 1, 2, -1);
        Check.due("recoverer(1, 0)", x.recoverer(1, 0), 0);
    }

    private static void doneWhenItClosed() {
        Face x = Scene.recovered();
        Check.due("recoverer(1, 0)", x.recoverer(1, 0), 4);
        Check.due("recover(1)", x.recover(1), false);
    }

    private static void doneWhenOtherClosed() {
        Face x = otherClosed();
        Check.deliverFirst(x, Check.MISSING);
        Check.dueRecoverer(x, 1, 4, 1, 0, 1, -1);
        Check.due("recover(1)", x.recover(1), false);
    }

    private static void idleCanBeginAgain() {
        Face x = otherBegins();
        Check.pass(x, Check.MISSING, 0);
        Check.due("recover(1)", x.recover(1), true);
        Check.dueRecoverer(x, 1, 1, 3, 0, 0, -1);
        Check.dueLedger(x, 1, 3, -1);
    }
}
