public final class Promise08AbandonTest {
    public static void main(String[] args) {
        Face x = Check.counted(3, 2, 2, 5, 6);
        Check.due("abandon(1) when IDLE", x.abandon(1), false);
        x.recover(1);
        Check.due("abandon(2) when IDLE", x.abandon(2), false);
        Check.due("abandon(0)", x.abandon(0), false);
        Check.due("abandon(3)", x.abandon(3), false);
        for (int r : Check.FAR_OUT) {
            Check.due("abandon(" + r + ")", x.abandon(r), false);
        }
        Check.dueRecoverer(x, 1, 1, 1, 0, 0, -1);

        Check.deliverFirst(x, Check.FENCE, Check.FENCE, Check.FENCE, Check.FENCED);
        Check.due("abandon(1) while FENCING", x.abandon(1), true);
        Check.dueRecoverer(x, 1, 0, 1, 0, 1, -1);
        Check.dueLedger(x, 1, 1, -1);
        Check.due("flight()", x.flight(), 2);
        Check.due("abandon(1) again", x.abandon(1), false);
        Check.deliverFirst(x, Check.FENCED, Check.FENCED);
        Check.dueRecoverer(x, 1, 0, 1, 0, 1, -1);
        Check.due("flight()", x.flight(), 0);

        x.recover(1);
        Check.deliverFirst(x, Check.FENCE, Check.FENCE, Check.FENCE, Check.FENCED, Check.FENCED);
        Check.dueRecoverer(x, 1, 2, 2, 1, 0, 0);
        Check.due("abandon(1) while READING", x.abandon(1), true);
        Check.dueRecoverer(x, 1, 0, 2, 1, 0, 0);
        Check.deliverFirst(x, Check.FENCED, Check.READ, Check.READ, Check.GOT, Check.GOT);
        Check.dueRecoverer(x, 1, 0, 2, 1, 0, 0);

        x.recover(2);
        Check.deliverFirst(x, 1, 1, 1, 5, 5, 5, 2, 2, 6);
        Check.dueRecoverer(x, 2, 3, 3, 1, 0, 0);
        Check.due("abandon(2) while WRITING BACK", x.abandon(2), true);
        Check.dueRecoverer(x, 2, 0, 3, 1, 0, 0);
        Check.deliverAll(x);
        Check.dueRecoverer(x, 2, 0, 3, 1, 0, 0);
        Check.dueLedger(x, 1, 3, -1);

        x.recover(2);
        Check.deliverAll(x);
        Check.dueRecoverer(x, 2, 4, 4, 2, 1, 0);
        Check.due("abandon(2) when DONE", x.abandon(2), false);
        Check.dueRecoverer(x, 2, 4, 4, 2, 1, 0);
        Check.end();
    }
}
