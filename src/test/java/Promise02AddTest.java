public final class Promise02AddTest {
    public static void main(String[] args) {
        sendsToTheSetInOrder();
        carriesLacAsMark();
        anyValue();
        fourAboveLac();
        twentyEntries();
        notWriting();
        fullChannel();
        Check.end();
    }

    private static void sendsToTheSetInOrder() {
        Face x = new Real(4, 3, 2);
        for (int e = 0; e < 4; e++) {
            Check.due("add", x.add(10 + e), e);
        }
        Check.due("flight()", x.flight(), 12);
        int i = 0;
        for (int e = 0; e < 4; e++) {
            for (int j = 0; j < 3; j++) {
                Check.dueMessage(x, i, Check.ADD, 0, (e + j) % 4, e, 10 + e, 0, -1);
                i++;
            }
        }
        Check.dueWriter(x, 0, 4, -1);
    }

    private static void carriesLacAsMark() {
        Face x = Check.counted(3, 2, 2, 5, 6);
        Check.due("add(7)", x.add(7), 2);
        Check.dueMessage(x, 0, Check.ADD, 0, 2, 2, 7, 0, 1);
        Check.dueMessage(x, 1, Check.ADD, 0, 0, 2, 7, 0, 1);
        Check.due("message(2, 0)", x.message(2, 0), FencedLedger.NONE);
    }

    private static void anyValue() {
        Face x = new Real(3, 2, 1);
        int[] values = {Integer.MIN_VALUE, -1, 0, Integer.MAX_VALUE};
        for (int k = 0; k < values.length; k++) {
            Check.due("add", x.add(values[k]), k);
            Check.due("its value", x.message(2 * k, 4), values[k]);
        }
    }

    private static void fourAboveLac() {
        Face x = Check.counted(3, 2, 2, 1);
        for (int e = 1; e <= 4; e++) {
            Check.due("add", x.add(e), e);
        }
        Check.dueThrow("add with four above LAC", IndexOutOfBoundsException.class, () -> x.add(9));
        Check.due("flight()", x.flight(), 8);
        Check.dueWriter(x, 0, 5, 0);
        Check.deliverFirst(x, Check.ADD, Check.ADD);
        x.deliver(6);
        Check.dueThrow("add with four above LAC", IndexOutOfBoundsException.class, () -> x.add(9));
        x.deliver(6);
        Check.due("add with three above LAC", x.add(9), 5);
    }

    private static void twentyEntries() {
        Face x = Check.counted(3, 2, 1, new int[19]);
        Check.due("add", x.add(3), 19);
        Check.dueThrow("add of entry 20", IndexOutOfBoundsException.class, () -> x.add(4));
        Check.deliverAll(x);
        Check.dueThrow("add of entry 20", IndexOutOfBoundsException.class, () -> x.add(4));
        Check.dueWriter(x, 0, 20, 19);
        Check.due("flight()", x.flight(), 0);
    }

    private static void notWriting() {
        Face gone = new Real(3, 2, 1);
        gone.leave();
        Check.dueThrow("add when GONE", IllegalStateException.class, () -> gone.add(1));
        Check.dueWriter(gone, 3, 0, -1);

        Face done = new Real(3, 2, 1);
        done.close();
        Check.dueThrow("add when DONE", IllegalStateException.class, () -> done.add(1));

        Face stopped = new Real(3, 2, 1);
        stopped.recover(1);
        Check.deliverFirst(stopped, Check.FENCE);
        stopped.add(1);
        stopped.deliver(3);
        stopped.deliver(4);
        Check.dueWriter(stopped, 1, 1, -1);
        Check.dueThrow("add when STOPPED", IllegalStateException.class, () -> stopped.add(1));

        Face both = new Real(3, 2, 1);
        for (int e = 0; e < 4; e++) {
            both.add(e);
        }
        both.leave();
        Check.dueThrow("add, GONE and four above", IllegalStateException.class, () -> both.add(1));
        Check.due("flight()", both.flight(), 8);
    }

    private static void fullChannel() {
        Face x = new Real(5, 5, 1);
        for (int e = 0; e < 4; e++) {
            x.add(e);
        }
        Check.due("flight()", x.flight(), 20);
        Check.deliverFirst(x, Check.ADD);
        Check.due("deliver(19)", x.deliver(19), Check.ADDED);
        Check.due("add to a channel with one place", x.add(50), 4);
        Check.due("flight()", x.flight(), 20);
        Check.dueMessage(x, 19, Check.ADD, 0, 4, 4, 50, 0, 0);
        Check.dueWriter(x, 0, 5, 0);
    }
}
