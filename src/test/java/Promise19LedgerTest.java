public final class Promise19LedgerTest {
    public static void main(String[] args) {
        Face x = Check.counted(3, 3, 2, 5, 6);
        Check.dueLedger(x, 0, 0, -1);
        x.recover(1);
        Check.dueLedger(x, 1, 1, -1);
        x.recover(2);
        Check.dueLedger(x, 1, 2, -1);
        Check.deliverAll(x);
        Check.dueLedger(x, 2, 3, 1);
        Check.due("ledger(3)", x.ledger(3), FencedLedger.NONE);
        for (int w : Check.FAR_OUT) {
            Check.due("ledger(" + w + ")", x.ledger(w), FencedLedger.NONE);
        }

        Face closed = Check.counted(3, 3, 2, 5, 6, 7);
        closed.close();
        Check.dueLedger(closed, 2, 1, 2);

        Face empty = new Real(3, 3, 2);
        empty.recover(1);
        Check.deliverAll(empty);
        Check.dueLedger(empty, 2, 2, -1);
        Check.end();
    }
}
