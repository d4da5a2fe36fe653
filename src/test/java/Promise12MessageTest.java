public final class Promise12MessageTest {
    public static void main(String[] args) {
        Face x = new Real(3, 2, 2);
        noSuch(x, 0);
        x.add(70);
        Check.dueMessage(x, 0, Check.ADD, 0, 0, 0, 70, 0, -1);
        Check.dueMessage(x, 1, Check.ADD, 0, 1, 0, 70, 0, -1);
        noSuch(x, 2);
        Check.deliverFirst(x, Check.ADD, Check.ADD);
        Check.dueMessage(x, 0, Check.ADDED, 0, 0, 0, 0, 0, 0);
        Check.deliverAll(x);
        x.add(71);
        Check.dueMessage(x, 0, Check.ADD, 0, 1, 1, 71, 0, 0);
        x.deliver(0);
        Check.loseAll(x);

        x.recover(1);
        x.abandon(1);
        Check.loseAll(x);
        x.recover(2);
        Check.dueMessage(x, 2, Check.FENCE, 2, 2, 0, 0, 2, 0);
        Check.deliverFirst(x, Check.FENCE, Check.FENCE, Check.FENCE);
        Check.dueMessage(x, 0, Check.FENCED, 2, 0, 0, -1, 2, 0);
        Check.dueMessage(x, 1, Check.FENCED, 2, 1, 0, 0, 2, 0);
        x.resend(1);
        Check.due("deliver(3)", x.deliver(3), Check.ADD);
        Check.dueMessage(x, 4, Check.REFUSED, 0, 1, 1, 0, 0, 0);
        x.lose(4);
        x.lose(3);
        Check.deliverFirst(x, Check.FENCED, Check.FENCED);
        x.lose(0);
        Check.dueMessage(x, 0, Check.READ, 2, 1, 1, 0, 2, 0);
        Check.dueMessage(x, 1, Check.READ, 2, 2, 1, 0, 2, 0);
        Check.deliverFirst(x, Check.READ, Check.READ);
        Check.dueMessage(x, 0, Check.GOT, 2, 1, 1, 71, 2, 0);
        Check.dueMessage(x, 1, Check.MISSING, 2, 2, 1, 0, 2, 0);
        Check.deliverFirst(x, Check.GOT);
        Check.dueMessage(x, 1, Check.ADD, 2, 1, 1, 71, 2, 0);
        Check.due("deliver(1)", x.deliver(1), Check.ADD);
        Check.dueMessage(x, 2, Check.ADDED, 2, 1, 1, 0, 2, 0);
        noSuch(x, 3);
        Check.due("message(0, -1)", x.message(0, -1), FencedLedger.NONE);
        Check.due("message(0, 7)", x.message(0, 7), FencedLedger.NONE);
        for (int w : Check.FAR_OUT) {
            Check.due("message(0, " + w + ")", x.message(0, w), FencedLedger.NONE);
        }
        Check.end();
    }

    private static void noSuch(Face x, int count) {
        for (int w = 0; w < 7; w++) {
            Check.due("message(" + count + ", " + w + ")", x.message(count, w), FencedLedger.NONE);
        }
        for (int i : Check.FAR_OUT) {
            Check.due("message(" + i + ", 0)", x.message(i, 0), FencedLedger.NONE);
        }
    }
}
