public final class Promise20ReadTest {
    public static void main(String[] args) {
        readsFromTheSet();
        notClosed();
        beyondLast();
        nobodyHasIt();
        Check.end();
    }

    private static void readsFromTheSet() {
        Face x = Check.counted(3, 2, 1, 5, -1, 7);
        x.close();
        Check.due("read(0)", x.read(0), 5);
        Check.due("read(1)", x.read(1), -1);
        Check.due("read(2)", x.read(2), 7);
        x.power(2, false);
        Check.due("read(2) from the second", x.read(2), 7);
        Check.due("read(1)", x.read(1), -1);
        x.power(0, false);
        Check.dueThrow("read(2)", UnsupportedOperationException.class, () -> x.read(2));
        Check.due("read(0) from the second", x.read(0), 5);
        x.power(0, true);
        Check.due("read(2) again", x.read(2), 7);
        Check.dueStore(x, 0, 1, 0, 1, 2);
    }

    private static void notClosed() {
        Face x = Check.counted(3, 2, 1, 5);
        Check.dueThrow("read(0) when OPEN", IllegalStateException.class, () -> x.read(0));
        Check.dueThrow("read(9) when OPEN", IllegalStateException.class, () -> x.read(9));
        Check.dueThrow("read(-1) when OPEN", IllegalStateException.class, () -> x.read(-1));
        x.recover(1);
        Check.dueThrow("read(0) when RECOVERING", IllegalStateException.class, () -> x.read(0));
    }

    private static void beyondLast() {
        Face x = Check.counted(3, 2, 1, 5);
        x.add(6);
        x.deliver(0);
        x.close();
        Check.dueLedger(x, 2, 1, 0);
        Check.due("has(1, 1)", x.has(1, 1), true);
        Check.dueThrow("read(1) beyond LAST", IndexOutOfBoundsException.class, () -> x.read(1));
        for (int e : Check.FAR_OUT) {
            Check.dueThrow("read(" + e + ")", IndexOutOfBoundsException.class, () -> x.read(e));
        }
        for (int s = 0; s < 3; s++) {
            x.power(s, false);
        }
        Check.dueThrow("read(1), all down", IndexOutOfBoundsException.class, () -> x.read(1));
        Check.dueThrow("read(0), all down", UnsupportedOperationException.class, () -> x.read(0));

        Face empty = new Real(3, 2, 1);
        empty.close();
        Check.dueThrow("read(0) of none", IndexOutOfBoundsException.class, () -> empty.read(0));

        Face full = Check.counted(3, 2, 1, new int[20]);
        full.close();
        Check.due("read(19)", full.read(19), 0);
        Check.dueThrow("read(20)", IndexOutOfBoundsException.class, () -> full.read(20));
    }

    private static void nobodyHasIt() {
        Face x = new Real(4, 3, 1);
        x.add(5);
        x.deliver(2);
        Check.deliverFirst(x, Check.ADD);
        x.lose(0);
        Check.deliverAll(x);
        x.close();
        Check.dueLedger(x, 2, 1, 0);
        Check.due("read(0), not on all", x.read(0), 5);
        x.power(0, false);
        Check.due("read(0), on the third", x.read(0), 5);
        x.power(2, false);
        Check.dueThrow("read(0), on none UP", UnsupportedOperationException.class, () -> x.read(0));
    }
}
