public final class Promise07RetryTest {
    public static void main(String[] args) {
        everyStep();
        nothingToRetry();
        fullChannel();
        Check.end();
    }

    private static void everyStep() {
        Face x = Check.counted(4, 3, 2, 5, 6);
        x.add(-1);
        Check.deliverFirst(x, Check.ADD, Check.ADD, Check.ADD);
        Check.loseAll(x);
        x.recover(2);
        x.deliver(1);
        Check.due("deliver(3)", x.deliver(3), Check.FENCED);
        Check.loseAll(x);

        Check.due("retry(2) while FENCING", x.retry(2), 3);
        Check.due("flight()", x.flight(), 3);
        Check.dueMessage(x, 0, Check.FENCE, 2, 0, 0, 0, 1, 0);
        Check.dueMessage(x, 1, Check.FENCE, 2, 2, 0, 0, 1, 0);
        Check.dueMessage(x, 2, Check.FENCE, 2, 3, 0, 0, 1, 0);
        Check.deliverFirst(x, Check.FENCE, Check.FENCE, Check.FENCE, Check.FENCED, Check.FENCED);
        Check.dueRecoverer(x, 2, 2, 1, 2, 0, 1);
        Check.loseAll(x);

        Check.due("retry(2) while READING", x.retry(2), 3);
        Check.dueMessage(x, 0, Check.READ, 2, 2, 2, 0, 1, 0);
        Check.dueMessage(x, 1, Check.READ, 2, 3, 2, 0, 1, 0);
        Check.dueMessage(x, 2, Check.READ, 2, 0, 2, 0, 1, 0);
        Check.deliverFirst(x, Check.READ, Check.READ, Check.READ, Check.GOT);
        Check.dueRecoverer(x, 2, 3, 1, 2, 0, 1);
        Check.loseAll(x);

        Check.due("retry(2) while WRITING BACK", x.retry(2), 3);
        Check.dueMessage(x, 0, Check.ADD, 2, 2, 2, -1, 1, 1);
        Check.dueMessage(x, 1, Check.ADD, 2, 3, 2, -1, 1, 1);
        Check.dueMessage(x, 2, Check.ADD, 2, 0, 2, -1, 1, 1);
        x.deliver(1);
        Check.due("deliver(2)", x.deliver(2), Check.ADDED);
        Check.dueRecoverer(x, 2, 3, 1, 2, 1, 1);
        Check.loseAll(x);
        Check.due("retry(2) with one ANSWERED", x.retry(2), 2);
        Check.dueMessage(x, 0, Check.ADD, 2, 2, 2, -1, 1, 1);
        Check.dueMessage(x, 1, Check.ADD, 2, 0, 2, -1, 1, 1);
        Check.deliverFirst(x, Check.ADD, Check.ADD, Check.ADDED);
        Check.dueRecoverer(x, 2, 2, 1, 3, 0, 1);
        Check.loseAll(x);

        Check.due("retry(2) while READING on", x.retry(2), 3);
        Check.deliverFirst(x, Check.READ);
        Check.due("deliver(2)", x.deliver(2), Check.MISSING);
        Check.loseAll(x);
        Check.due("retry(2) with one MISSING", x.retry(2), 2);
        Check.dueMessage(x, 0, Check.READ, 2, 0, 3, 0, 1, 0);
        Check.dueMessage(x, 1, Check.READ, 2, 1, 3, 0, 1, 0);
        Check.deliverAll(x);
        Check.dueRecoverer(x, 2, 4, 1, 3, 2, 1);
        Check.due("retry(2) when DONE", x.retry(2), FencedLedger.NONE);
    }

    private static void nothingToRetry() {
        Face x = new Real(3, 2, 2);
        Check.due("retry(1) when IDLE", x.retry(1), FencedLedger.NONE);
        x.recover(1);
        Check.due("retry(2) when IDLE", x.retry(2), FencedLedger.NONE);
        Check.due("retry(0)", x.retry(0), FencedLedger.NONE);
        Check.due("retry(3)", x.retry(3), FencedLedger.NONE);
        for (int r : Check.FAR_OUT) {
            Check.due("retry(" + r + ")", x.retry(r), FencedLedger.NONE);
        }
        Check.due("flight()", x.flight(), 3);
        x.abandon(1);
        Check.due("retry(1) when abandoned", x.retry(1), FencedLedger.NONE);
        Check.due("flight()", x.flight(), 3);
    }

    private static void fullChannel() {
        Face x = new Real(5, 3, 2);
        x.recover(1);
        for (int k = 0; k < 4; k++) {
            Check.due("retry(1)", x.retry(1), 5);
        }
        Check.due("flight()", x.flight(), 20);
        x.lose(0);
        Check.due("retry(1) of a lost message", x.retry(1), 5);
        Check.dueMessage(x, 19, Check.FENCE, 1, 0, 0, 0, 1, 0);
    }
}
