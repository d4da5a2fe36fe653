public final class Promise05LeaveTest {
    public static void main(String[] args) {
        Face writing = Check.counted(3, 2, 2, 5);
        writing.add(6);
        Check.deliverFirst(writing, Check.ADD, Check.ADD);
        Check.due("leave() while WRITING", writing.leave(), true);
        Check.dueWriter(writing, 3, 2, 0);
        Check.due("leave() again", writing.leave(), false);
        Check.dueWriter(writing, 3, 2, 0);
        Check.deliverFirst(writing, Check.ADDED, Check.ADDED);
        Check.dueWriter(writing, 3, 2, 0);
        Check.due("answers(1) heard when GONE", writing.answers(1), 0);
        Check.dueLedger(writing, 0, 0, -1);

        Face done = new Real(3, 2, 2);
        done.close();
        Check.due("leave() when DONE", done.leave(), true);
        Check.dueWriter(done, 3, 0, -1);
        Check.dueLedger(done, 2, 1, -1);

        Face stopped = new Real(3, 2, 2);
        stopped.recover(2);
        stopped.deliver(0);
        stopped.add(1);
        stopped.deliver(3);
        stopped.deliver(4);
        Check.dueWriter(stopped, 1, 1, -1);
        Check.due("leave() when STOPPED", stopped.leave(), true);
        Check.dueWriter(stopped, 3, 1, -1);

        Face refused = new Real(3, 2, 2);
        refused.recover(2);
        refused.deliver(0);
        refused.add(1);
        refused.deliver(3);
        refused.leave();
        Check.due("deliver(4)", refused.deliver(4), Check.REFUSED);
        Check.dueWriter(refused, 3, 1, -1);
        Check.end();
    }
}
