public final class Promise04CloseTest {
    public static void main(String[] args) {
        closesAtLac();
        closesEmpty();
        notWriting();
        notOpen();
        Check.end();
    }

    private static void closesAtLac() {
        Face x = Check.counted(3, 2, 2, 5, 6);
        x.add(7);
        Check.due("close()", x.close(), true);
        Check.dueLedger(x, 2, 1, 1);
        Check.dueWriter(x, 2, 3, 1);
        Check.due("flight()", x.flight(), 2);
        Check.due("close() again", x.close(), false);
        Check.dueLedger(x, 2, 1, 1);
        Check.deliverAll(x);
        Check.dueWriter(x, 2, 3, 1);
        Check.dueLedger(x, 2, 1, 1);
    }

    private static void closesEmpty() {
        Face x = new Real(3, 2, 2);
        Check.due("close()", x.close(), true);
        Check.dueLedger(x, 2, 1, -1);
        Check.dueWriter(x, 2, 0, -1);
    }

    private static void notWriting() {
        Face x = Check.counted(3, 2, 2, 5);
        x.leave();
        Check.due("close() when GONE", x.close(), false);
        Check.dueLedger(x, 0, 0, -1);
        Check.dueWriter(x, 3, 1, 0);
    }

    private static void notOpen() {
        Face x = Check.counted(3, 2, 2, 5);
        x.recover(1);
        Check.due("close() while RECOVERING", x.close(), false);
        Check.dueLedger(x, 1, 1, -1);
        Check.dueWriter(x, 0, 1, 0);
        x.abandon(1);
        Check.due("close() while still RECOVERING", x.close(), false);
        x.recover(1);
        Check.deliverAll(x);
        Check.dueLedger(x, 2, 3, 0);
        Check.due("close() when CLOSED by another", x.close(), false);
        Check.dueLedger(x, 2, 3, 0);
        Check.dueWriter(x, 0, 1, 0);
    }
}
