public final class Promise16WriterTest {
    public static void main(String[] args) {
        Face x = new Real(3, 2, 1);
        Check.dueWriter(x, 0, 0, -1);
        x.add(5);
        x.add(6);
        Check.dueWriter(x, 0, 2, -1);
        Check.deliverAll(x);
        Check.dueWriter(x, 0, 2, 1);
        Check.due("writer(3)", x.writer(3), FencedLedger.NONE);
        for (int w : Check.FAR_OUT) {
            Check.due("writer(" + w + ")", x.writer(w), FencedLedger.NONE);
        }
        x.recover(1);
        Check.deliverFirst(x, Check.FENCE, Check.FENCE, Check.FENCE);
        Check.dueWriter(x, 0, 2, 1);
        x.add(7);
        x.deliver(3);
        Check.dueWriter(x, 0, 3, 1);
        x.deliver(4);
        Check.dueWriter(x, 1, 3, 1);
        x.leave();
        Check.dueWriter(x, 3, 3, 1);

        Face done = new Real(3, 2, 1);
        done.close();
        Check.dueWriter(done, 2, 0, -1);
        Check.end();
    }
}
