public final class Promise14StoreTest {
    public static void main(String[] args) {
        Face x = Check.counted(4, 2, 1, 5, 6, 7, 8, 9);
        // entries 0 and 4 on 0 and 1, entry 3 on 3 and 0, each with the mark one below it
        Check.dueStore(x, 0, 1, 0, 3, 3);
        Check.dueStore(x, 1, 1, 0, 3, 3);
        Check.dueStore(x, 2, 1, 0, 1, 2);
        Check.dueStore(x, 3, 1, 0, 2, 2);
        x.resend(4);
        x.add(1);
        x.resend(5);
        Check.deliverAll(x);
        Check.dueStore(x, 1, 1, 0, 4, 4);
        Check.dueStore(x, 2, 1, 0, 4, 3);
        x.power(2, false);
        x.recover(1);
        Check.deliverAll(x);
        Check.dueStore(x, 1, 1, 1, 4, 4);
        Check.dueStore(x, 2, 0, 0, 4, 3);
        Check.due("store(4, 0)", x.store(4, 0), FencedLedger.NONE);
        Check.due("store(0, 4)", x.store(0, 4), FencedLedger.NONE);
        for (int k : Check.FAR_OUT) {
            Check.due("store(" + k + ", 0)", x.store(k, 0), FencedLedger.NONE);
            Check.due("store(0, " + k + ")", x.store(0, k), FencedLedger.NONE);
        }
        Check.end();
    }
}
