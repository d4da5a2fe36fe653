public final class Promise18RecovererTest {
    public static void main(String[] args) {
        aWholeRecovery();
        fencingNeedsEverySet();
        anyOneOfTheSetCanHaveIt();
        hearsOnlyItsTerm();
        hearsOnlyItsEntry();
        oneStoreCountsOnce();
        outdatedFinishes();
        finishesAtTwenty();
        finishesAtTwentyFromFencing();
        noSuch();
        Check.end();
    }

    private static void aWholeRecovery() {
        Face x = Check.counted(5, 3, 2, 50, 51, 52);
        x.add(53);
        Check.deliverFirst(x, Check.ADD);
        Check.loseAll(x);
        x.leave();
        x.recover(1);
        Check.deliverFirst(x, 1, 1, 1, 1, 1);
        Check.dueRecoverer(x, 1, 1, 1, 0, 0, -1);
        Check.deliverFirst(x, Check.FENCED);
        Check.dueRecoverer(x, 1, 1, 1, 0, 1, -1);
        Check.deliverFirst(x, Check.FENCED);
        Check.dueRecoverer(x, 1, 1, 1, 0, 2, 0);
        Check.deliverFirst(x, Check.FENCED);
        Check.dueRecoverer(x, 1, 1, 1, 0, 3, 1);
        Check.deliverFirst(x, Check.FENCED);
        // only store 4 is silent, and Q is 2
        Check.dueRecoverer(x, 1, 2, 1, 3, 0, 2);
        Check.due("deliver(0), too late", x.deliver(0), Check.FENCED);
        Check.dueRecoverer(x, 1, 2, 1, 3, 0, 2);
        Check.deliverFirst(x, Check.READ, Check.READ, Check.READ);
        Check.due("deliver(1)", x.deliver(1), Check.MISSING);
        Check.dueRecoverer(x, 1, 2, 1, 3, 1, 2);
        Check.deliverFirst(x, Check.GOT);
        Check.dueRecoverer(x, 1, 3, 1, 3, 0, 2);
        Check.due("deliver(0), too late", x.deliver(0), Check.MISSING);
        Check.dueRecoverer(x, 1, 3, 1, 3, 0, 2);
        Check.dueMessage(x, 0, Check.ADD, 1, 3, 3, 53, 1, 2);
        Check.dueMessage(x, 1, Check.ADD, 1, 4, 3, 53, 1, 2);
        Check.dueMessage(x, 2, Check.ADD, 1, 0, 3, 53, 1, 2);
        Check.deliverFirst(x, Check.ADD, Check.ADD, Check.ADD, Check.ADDED);
        Check.dueRecoverer(x, 1, 3, 1, 3, 1, 2);
        Check.deliverFirst(x, Check.ADDED);
        Check.dueRecoverer(x, 1, 2, 1, 4, 0, 2);
        Check.dueStore(x, 4, 1, 1, 2, 2);
        Check.deliverFirst(x, Check.ADDED, Check.READ, Check.READ, Check.READ, Check.MISSING);
        Check.dueLedger(x, 1, 1, -1);
        Check.deliverFirst(x, Check.MISSING);
        Check.dueRecoverer(x, 1, 4, 1, 4, 2, 2);
        Check.dueLedger(x, 2, 2, 3);
        Check.deliverFirst(x, Check.MISSING);
        Check.dueRecoverer(x, 1, 4, 1, 4, 2, 2);
        Check.due("read(3)", x.read(3), 53);
    }

    /** N 5, W 2, Q 2: neighbours must not both be silent. */
    private static void fencingNeedsEverySet() {
        for (int e = 0; e < 5; e++) {
            Face x = new Real(5, 2, 2);
            x.recover(1);
            fenceOnly(x, (e + 2) % 5);
            fenceOnly(x, (e + 4) % 5);
            // the SET of e, e and e + 1, is silent, and no other SET is
            Check.dueRecoverer(x, 1, 1, 1, 0, 2, -1);
            fenceOnly(x, e);
            Check.dueRecoverer(x, 1, 2, 1, 0, 0, -1);
        }

        Face all = new Real(5, 2, 1);
        all.recover(1);
        Check.deliverFirst(all, 1, 1, 1, 1, 1, 5, 5, 5, 5);
        Check.dueRecoverer(all, 1, 1, 1, 0, 4, -1);
        Check.deliverFirst(all, 5);
        Check.dueRecoverer(all, 1, 2, 1, 0, 0, -1);

        Face one = new Real(5, 5, 5);
        one.recover(2);
        one.deliver(3);
        Check.due("deliver(4)", one.deliver(4), Check.FENCED);
        Check.dueRecoverer(one, 2, 2, 1, 0, 0, -1);
    }

    private static void fenceOnly(Face x, int s) {
        Check.loseAll(x);
        x.retry(1);
        int i = 0;
        while (i < x.flight() && x.message(i, 2) != s) {
            i++;
        }
        Check.due("deliver to store " + s, x.deliver(i), Check.FENCE);
        Check.due("deliver the answer", x.deliver(x.flight() - 1), Check.FENCED);
    }

    private static void anyOneOfTheSetCanHaveIt() {
        Face x = new Real(3, 3, 1);
        x.add(44);
        x.deliver(2);
        Check.loseAll(x);
        x.recover(1);
        Check.deliverFirst(x, 1, 1, 1, 5, 5, 5, 2, 2, 2, 7, 7);
        Check.dueRecoverer(x, 1, 2, 1, 0, 2, -1);
        Check.deliverFirst(x, Check.GOT);
        Check.dueRecoverer(x, 1, 3, 1, 0, 0, -1);
        Check.deliverFirst(x, 0, 0, 0, 3);
        Check.dueRecoverer(x, 1, 2, 1, 1, 0, -1);
        Check.deliverAll(x);
        Check.dueRecoverer(x, 1, 4, 1, 1, 3, -1);
        Check.dueLedger(x, 2, 2, 0);
    }

    private static void hearsOnlyItsTerm() {
        Face x = new Real(3, 2, 2);
        x.recover(1);
        Check.deliverFirst(x, Check.FENCE, Check.FENCE, Check.FENCE);
        x.abandon(1);
        x.recover(1);
        Check.deliverFirst(x, Check.FENCED, Check.FENCED, Check.FENCED);
        Check.dueRecoverer(x, 1, 1, 2, 0, 0, -1);
        Check.deliverFirst(x, Check.FENCE, Check.FENCE, Check.FENCE, Check.FENCED);
        Check.dueRecoverer(x, 1, 1, 2, 0, 1, -1);
    }

    private static void hearsOnlyItsEntry() {
        Face x = new Real(3, 3, 2);
        x.add(40);
        x.add(41);
        Check.deliverFirst(x, 0, 0, 0, 0, 0, 0);
        Check.loseAll(x);
        x.recover(1);
        Check.deliverFirst(x, 1, 1, 1, 5, 5, 5, 2, 2, 2);
        Check.deliverFirst(x, Check.GOT);
        // GOT of entry 0 stays behind in the channel
        x.deliver(2);
        x.deliver(2);
        x.deliver(2);
        x.deliver(2);
        x.deliver(2);
        Check.dueRecoverer(x, 1, 2, 1, 1, 0, -1);
        Check.deliverFirst(x, Check.GOT, Check.GOT);
        Check.dueRecoverer(x, 1, 2, 1, 1, 0, -1);
        Check.deliverFirst(x, Check.ADDED);
        Check.dueRecoverer(x, 1, 2, 1, 1, 0, -1);
        Check.deliverFirst(x, Check.READ, Check.READ, Check.READ, Check.GOT);
        Check.dueRecoverer(x, 1, 3, 1, 1, 0, -1);

        Face late = new Real(3, 3, 2);
        late.add(40);
        late.add(41);
        Check.deliverFirst(late, 0, 0, 0, 0, 0, 0);
        Check.loseAll(late);
        late.recover(1);
        Check.deliverFirst(late, 1, 1, 1, 5, 5, 5, 2, 2, 2, 6, 6, 6, 0, 0, 0, 3, 3);
        Check.deliverFirst(late, Check.ADDED);
        Check.dueRecoverer(late, 1, 2, 1, 1, 0, -1);
        Check.deliverFirst(late, 2, 2, 2, 6);
        late.retry(1);
        Check.deliverFirst(late, 6, 6, 0, 0, 0, 0, 0, 0, 3, 3);
        // ADDED of entry 1 arrives while entry 2 is read
        Check.dueRecoverer(late, 1, 2, 1, 2, 0, -1);
        Check.deliverFirst(late, 3, 3, 3, 3);
        Check.dueRecoverer(late, 1, 2, 1, 2, 0, -1);
    }

    private static void oneStoreCountsOnce() {
        Face x = new Real(3, 3, 2);
        x.recover(1);
        x.retry(1);
        x.deliver(3);
        Check.deliverFirst(x, Check.FENCE);
        Check.due("deliver(4)", x.deliver(4), Check.FENCED);
        Check.due("deliver(4)", x.deliver(4), Check.FENCED);
        Check.dueRecoverer(x, 1, 1, 1, 0, 1, -1);
        Check.loseAll(x);
        x.retry(1);
        Check.deliverFirst(x, Check.FENCE, Check.FENCE, Check.FENCED);
        Check.dueRecoverer(x, 1, 2, 1, 0, 0, -1);
        Check.loseAll(x);
        x.retry(1);
        x.retry(1);
        x.deliver(3);
        x.deliver(0);
        Check.due("deliver(4)", x.deliver(4), Check.MISSING);
        Check.due("deliver(4)", x.deliver(4), Check.MISSING);
        Check.dueRecoverer(x, 1, 2, 1, 0, 1, -1);
        Check.due("deliver(0)", x.deliver(0), Check.READ);
        Check.due("deliver(3)", x.deliver(3), Check.MISSING);
        Check.dueRecoverer(x, 1, 4, 1, 0, 2, -1);
        Check.dueLedger(x, 2, 2, -1);
    }

    private static void outdatedFinishes() {
        Face x = new Real(3, 3, 3);
        x.recover(1);
        Check.deliverFirst(x, 1, 1, 1, 5, 5, 5, 2, 2, 2);
        x.recover(2);
        Check.dueLedger(x, 1, 2, -1);
        Check.deliverFirst(x, Check.MISSING);
        Check.dueRecoverer(x, 1, 0, 1, 0, 1, -1);
        Check.dueLedger(x, 1, 2, -1);
        Check.due("recover(1) again", x.recover(1), true);
        Check.dueRecoverer(x, 1, 1, 3, 0, 0, -1);

        Face y = new Real(3, 3, 3);
        y.recover(1);
        Check.deliverFirst(y, 1, 1, 1, 5, 5, 5, 2, 2, 2);
        y.recover(2);
        y.deliver(3);
        y.deliver(5);
        Check.dueRecoverer(y, 2, 2, 2, 0, 0, -1);
        y.deliver(5);
        y.deliver(7);
        Check.dueRecoverer(y, 2, 4, 2, 0, 1, -1);
        Check.dueLedger(y, 2, 3, -1);
        Check.deliverFirst(y, Check.MISSING);
        Check.dueRecoverer(y, 1, 4, 1, 0, 1, -1);
        Check.dueLedger(y, 2, 3, -1);
    }

    private static void finishesAtTwenty() {
        Face x = Check.counted(3, 2, 1, new int[20]);
        x.recover(2);
        Check.deliverFirst(x, 1, 1, 1, 5, 5, 5);
        Check.dueRecoverer(x, 2, 2, 1, 19, 0, 18);
        Check.deliverFirst(x, 2, 2, 6, 6, 0, 0);
        Check.dueRecoverer(x, 2, 3, 1, 19, 0, 18);
        Check.deliverFirst(x, Check.ADDED);
        Check.dueRecoverer(x, 2, 4, 1, 19, 1, 18);
        Check.dueLedger(x, 2, 2, 19);
        Check.due("flight()", x.flight(), 1);
    }

    private static void finishesAtTwentyFromFencing() {
        Face x = Check.counted(3, 2, 1, new int[19]);
        x.add(8);
        Check.deliverFirst(x, Check.ADD);
        Check.due("deliver(1)", x.deliver(1), Check.ADDED);
        Check.loseAll(x);
        Check.dueWriter(x, 0, 20, 19);
        x.resend(19);
        Check.deliverFirst(x, Check.ADD);
        Check.dueStore(x, 2, 1, 0, 19, 13);
        x.recover(1);
        Check.loseAll(x);
        x.retry(1);
        Check.deliverFirst(x, 1, 1, 1, 5, 5);
        Check.dueRecoverer(x, 1, 1, 1, 0, 2, 18);
        Check.deliverFirst(x, Check.FENCED);
        Check.dueRecoverer(x, 1, 4, 1, 0, 3, 19);
        Check.dueLedger(x, 2, 2, 19);
        Check.due("flight()", x.flight(), 0);
    }

    private static void noSuch() {
        Face x = new Real(3, 2, 1);
        Check.due("recoverer(0, 0)", x.recoverer(0, 0), FencedLedger.NONE);
        Check.due("recoverer(3, 0)", x.recoverer(3, 0), FencedLedger.NONE);
        Check.due("recoverer(1, 5)", x.recoverer(1, 5), FencedLedger.NONE);
        for (int k : Check.FAR_OUT) {
            Check.due("recoverer(" + k + ", 0)", x.recoverer(k, 0), FencedLedger.NONE);
            Check.due("recoverer(1, " + k + ")", x.recoverer(1, k), FencedLedger.NONE);
        }
    }
}
