public final class Promise03ResendTest {
    public static void main(String[] args) {
        toThoseWhoHaveNotAnswered();
        markIsLacOfNow();
        allAnsweredAboveLac();
        noSuchEntry();
        notWriting();
        fullChannel();
        Check.end();
    }

    private static void toThoseWhoHaveNotAnswered() {
        Face x = new Real(5, 3, 2);
        x.add(8);
        Check.due("resend(0)", x.resend(0), 3);
        Check.due("flight()", x.flight(), 6);
        for (int i = 0; i < 6; i++) {
            Check.dueMessage(x, i, Check.ADD, 0, i % 3, 0, 8, 0, -1);
        }
        x.deliver(1);
        Check.due("resend before the answer arrives", x.resend(0), 3);
        Check.due("deliver(5)", x.deliver(5), Check.ADDED);
        Check.loseAll(x);
        Check.due("resend(0)", x.resend(0), 2);
        Check.dueMessage(x, 0, Check.ADD, 0, 0, 0, 8, 0, -1);
        Check.dueMessage(x, 1, Check.ADD, 0, 2, 0, 8, 0, -1);
        Check.deliverFirst(x, Check.ADD, Check.ADD, Check.ADDED);
        Check.due("writer(2)", x.writer(2), 0);
        Check.due("resend at LAC, one has not answered", x.resend(0), 1);
        Check.deliverAll(x);
        Check.due("resend at LAC, all have answered", x.resend(0), FencedLedger.NONE);
        Check.due("flight()", x.flight(), 0);
    }

    private static void markIsLacOfNow() {
        Face x = new Real(3, 2, 1);
        x.add(4);
        x.add(5);
        x.deliver(0);
        x.lose(0);
        x.lose(0);
        x.lose(0);
        Check.deliverFirst(x, Check.ADDED);
        Check.dueWriter(x, 0, 2, 0);
        Check.due("resend(1)", x.resend(1), 2);
        Check.dueMessage(x, 0, Check.ADD, 0, 1, 1, 5, 0, 0);
        Check.dueMessage(x, 1, Check.ADD, 0, 2, 1, 5, 0, 0);
        Check.due("resend(0)", x.resend(0), 1);
        Check.dueMessage(x, 2, Check.ADD, 0, 1, 0, 4, 0, 0);
    }

    private static void allAnsweredAboveLac() {
        Face x = new Real(3, 2, 2);
        x.add(1);
        x.add(2);
        x.lose(0);
        x.lose(0);
        Check.deliverAll(x);
        Check.due("answers(1)", x.answers(1), 2);
        Check.due("writer(2)", x.writer(2), -1);
        Check.due("resend above LAC, all have answered", x.resend(1), 0);
        Check.due("flight()", x.flight(), 0);
        Check.due("resend(0)", x.resend(0), 2);
    }

    private static void noSuchEntry() {
        Face x = new Real(3, 2, 2);
        Check.due("resend(0) with none", x.resend(0), FencedLedger.NONE);
        x.add(1);
        Check.due("resend(1) with one", x.resend(1), FencedLedger.NONE);
        for (int e : Check.FAR_OUT) {
            Check.due("resend(" + e + ")", x.resend(e), FencedLedger.NONE);
        }
        Check.due("flight()", x.flight(), 2);
    }

    private static void notWriting() {
        Face gone = new Real(3, 2, 2);
        gone.add(1);
        gone.leave();
        Check.due("resend when GONE", gone.resend(0), FencedLedger.NONE);
        Face done = new Real(3, 2, 2);
        done.add(1);
        done.close();
        Check.due("resend when DONE", done.resend(0), FencedLedger.NONE);
        Face stopped = new Real(3, 2, 2);
        stopped.recover(1);
        stopped.deliver(0);
        stopped.add(1);
        stopped.deliver(3);
        stopped.deliver(4);
        Check.due("writer(0)", stopped.writer(0), 1);
        Check.due("resend when STOPPED", stopped.resend(0), FencedLedger.NONE);
    }

    private static void fullChannel() {
        Face x = new Real(5, 5, 1);
        for (int e = 0; e < 4; e++) {
            x.add(e);
        }
        x.lose(0);
        Check.due("resend with one place", x.resend(2), 5);
        Check.due("flight()", x.flight(), 20);
        Check.dueMessage(x, 19, Check.ADD, 0, 2, 2, 2, 0, -1);
        Check.due("resend with no place", x.resend(3), 5);
        Check.due("flight()", x.flight(), 20);
    }
}
