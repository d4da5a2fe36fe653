public final class Promise06RecoverTest {
    public static void main(String[] args) {
        begins();
        closedAlready();
        noSuchOrNotIdle();
        beginsAgain();
        fullChannel();
        Check.end();
    }

    private static void begins() {
        Face x = new Real(5, 3, 2);
        x.add(9);
        Check.due("recover(2)", x.recover(2), true);
        Check.dueLedger(x, 1, 1, -1);
        Check.dueRecoverer(x, 2, 1, 1, 0, 0, -1);
        Check.dueRecoverer(x, 1, 0, 0, 0, 0, -1);
        Check.due("flight()", x.flight(), 8);
        for (int s = 0; s < 5; s++) {
            Check.dueMessage(x, 3 + s, Check.FENCE, 2, s, 0, 0, 1, 0);
        }
        Check.due("recover(1)", x.recover(1), true);
        Check.dueLedger(x, 1, 2, -1);
        Check.dueRecoverer(x, 1, 1, 2, 0, 0, -1);
        Check.dueRecoverer(x, 2, 1, 1, 0, 0, -1);
        Check.dueMessage(x, 12, Check.FENCE, 1, 4, 0, 0, 2, 0);
        Check.dueWriter(x, 0, 1, -1);
    }

    private static void closedAlready() {
        Face x = Check.counted(3, 2, 2, 5);
        x.close();
        Check.due("recover(1)", x.recover(1), true);
        Check.dueRecoverer(x, 1, 4, 0, 0, 0, -1);
        Check.dueLedger(x, 2, 1, 0);
        Check.due("flight()", x.flight(), 0);
        Check.due("recover(1) when DONE", x.recover(1), false);

        Face abandoned = Check.counted(3, 2, 2, 5);
        abandoned.recover(1);
        Check.deliverFirst(abandoned, Check.FENCE, Check.FENCE, Check.FENCE, Check.FENCED);
        abandoned.abandon(1);
        abandoned.recover(2);
        Check.deliverAll(abandoned);
        Check.dueLedger(abandoned, 2, 3, 0);
        Check.dueRecoverer(abandoned, 1, 0, 1, 0, 1, -1);
        Check.due("recover(1)", abandoned.recover(1), true);
        Check.dueRecoverer(abandoned, 1, 4, 1, 0, 1, -1);
        Check.dueLedger(abandoned, 2, 3, 0);
    }

    private static void noSuchOrNotIdle() {
        Face x = new Real(3, 2, 2);
        Check.due("recover(0)", x.recover(0), false);
        Check.due("recover(3)", x.recover(3), false);
        for (int r : Check.FAR_OUT) {
            Check.due("recover(" + r + ")", x.recover(r), false);
        }
        Check.dueLedger(x, 0, 0, -1);
        Check.due("flight()", x.flight(), 0);
        x.recover(1);
        Check.due("recover(1) while FENCING", x.recover(1), false);
        Check.dueLedger(x, 1, 1, -1);
        Check.due("flight()", x.flight(), 3);
    }

    private static void beginsAgain() {
        Face x = Check.counted(3, 3, 2, 5, 6, 7);
        x.recover(1);
        Check.deliverFirst(x, Check.FENCE, Check.FENCE, Check.FENCE, Check.FENCED, Check.FENCED);
        Check.dueRecoverer(x, 1, 2, 1, 2, 0, 1);
        Check.due("recover(1) while READING", x.recover(1), false);
        Check.deliverFirst(x, Check.FENCED, Check.READ, Check.READ, Check.READ, Check.GOT);
        Check.dueRecoverer(x, 1, 3, 1, 2, 0, 1);
        Check.due("recover(1) while WRITING BACK", x.recover(1), false);
        x.abandon(1);
        Check.loseAll(x);
        Check.due("recover(1)", x.recover(1), true);
        Check.dueRecoverer(x, 1, 1, 2, 2, 0, -1);
        Check.dueLedger(x, 1, 2, -1);
        Check.dueMessage(x, 0, Check.FENCE, 1, 0, 0, 0, 2, 0);
    }

    private static void fullChannel() {
        Face x = new Real(5, 4, 1);
        for (int e = 0; e < 4; e++) {
            x.add(e);
        }
        Check.due("recover(1)", x.recover(1), true);
        Check.due("flight()", x.flight(), 20);
        Check.dueMessage(x, 19, Check.FENCE, 1, 3, 0, 0, 1, 0);
        Check.due("recover(2)", x.recover(2), true);
        Check.due("flight()", x.flight(), 20);
        Check.dueRecoverer(x, 2, 1, 2, 0, 0, -1);
    }
}
