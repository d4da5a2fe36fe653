public final class Promise09DeliverTest {
    public static void main(String[] args) {
        noSuchMessage();
        inAnyOrder();
        toStoreThatIsDown();
        answerFromStoreThatIsDown();
        addToFencedStore();
        markOnlyGrows();
        fenceAndReadFence();
        answerFindsRoomInFullChannel();
        writerCountsInOrder();
        Check.end();
    }

    private static void noSuchMessage() {
        Face x = new Real(3, 2, 2);
        Check.due("deliver(0) of none", x.deliver(0), FencedLedger.NONE);
        x.add(1);
        Check.due("deliver(2) of two", x.deliver(2), FencedLedger.NONE);
        for (int i : Check.FAR_OUT) {
            Check.due("deliver(" + i + ")", x.deliver(i), FencedLedger.NONE);
        }
        Check.due("flight()", x.flight(), 2);
    }

    private static void inAnyOrder() {
        Face x = new Real(3, 3, 2);
        x.add(6);
        Check.due("deliver(1)", x.deliver(1), Check.ADD);
        Check.due("flight()", x.flight(), 3);
        Check.dueMessage(x, 0, Check.ADD, 0, 0, 0, 6, 0, -1);
        Check.dueMessage(x, 1, Check.ADD, 0, 2, 0, 6, 0, -1);
        Check.dueMessage(x, 2, Check.ADDED, 0, 1, 0, 0, 0, 0);
        Check.due("deliver(2)", x.deliver(2), Check.ADDED);
        Check.due("answers(0)", x.answers(0), 1);
        Check.due("deliver(1)", x.deliver(1), Check.ADD);
        Check.dueMessage(x, 1, Check.ADDED, 0, 2, 0, 0, 0, 0);
        Check.due("has(0, 0)", x.has(0, 0), false);
        Check.due("has(1, 0)", x.has(1, 0), true);
        Check.due("has(2, 0)", x.has(2, 0), true);
    }

    private static void toStoreThatIsDown() {
        Face x = new Real(3, 2, 2);
        x.add(6);
        x.recover(1);
        x.power(0, false);
        Check.due("deliver(0) of ADD", x.deliver(0), Check.ADD);
        Check.due("deliver(1) of FENCE", x.deliver(1), Check.FENCE);
        Check.due("flight()", x.flight(), 3);
        Check.dueStore(x, 0, 0, 0, -1, 0);
    }

    private static void answerFromStoreThatIsDown() {
        Face x = new Real(3, 2, 1);
        x.add(6);
        Check.deliverFirst(x, Check.ADD);
        x.power(0, false);
        Check.due("deliver(1)", x.deliver(1), Check.ADDED);
        Check.dueWriter(x, 0, 1, 0);
    }

    private static void addToFencedStore() {
        Face x = new Real(3, 2, 2);
        x.add(4);
        x.add(5);
        x.recover(1);
        Check.due("deliver(5)", x.deliver(5), Check.FENCE);
        Check.due("deliver(1)", x.deliver(1), Check.ADD);
        Check.dueMessage(x, 6, Check.REFUSED, 0, 1, 0, 0, 0, 0);
        Check.due("has(1, 0)", x.has(1, 0), false);
        Check.dueStore(x, 1, 1, 1, -1, 0);
        Check.due("deliver(1)", x.deliver(1), Check.ADD);
        Check.dueMessage(x, 6, Check.REFUSED, 0, 1, 1, 0, 0, 0);
        Check.due("deliver(0)", x.deliver(0), Check.ADD);
        Check.dueMessage(x, 6, Check.ADDED, 0, 0, 0, 0, 0, 0);
        Check.due("deliver(4)", x.deliver(4), Check.REFUSED);
        Check.dueWriter(x, 1, 2, -1);
        Check.due("deliver(5)", x.deliver(5), Check.ADDED);
        Check.due("answers(0) heard when STOPPED", x.answers(0), 0);
    }

    private static void markOnlyGrows() {
        Face x = new Real(3, 3, 1);
        x.add(4);
        Check.due("deliver(2)", x.deliver(2), Check.ADD);
        Check.due("deliver(2)", x.deliver(2), Check.ADDED);
        x.add(5);
        Check.due("deliver(2)", x.deliver(2), Check.ADD);
        Check.dueStore(x, 1, 1, 0, 0, 1);
        Check.due("deliver(1), with mark -1", x.deliver(1), Check.ADD);
        Check.dueStore(x, 1, 1, 0, 0, 2);
        x.resend(1);
        x.resend(1);
        Check.deliverAll(x);
        Check.dueStore(x, 1, 1, 0, 0, 2);
        Check.dueWriter(x, 0, 2, 1);
    }

    private static void fenceAndReadFence() {
        Face x = Check.counted(3, 2, 2, 5, -7);
        x.recover(1);
        Check.deliverFirst(x, Check.FENCE);
        Check.dueStore(x, 0, 1, 1, -1, 1);
        Check.dueMessage(x, 2, Check.FENCED, 1, 0, 0, -1, 1, 0);
        Check.deliverFirst(x, Check.FENCE);
        Check.dueMessage(x, 2, Check.FENCED, 1, 1, 0, 0, 1, 0);
        Check.deliverFirst(x, Check.FENCE, Check.FENCED, Check.FENCED, Check.FENCED);
        Check.dueRecoverer(x, 1, 2, 1, 1, 0, 0);
        Check.dueMessage(x, 0, Check.READ, 1, 1, 1, 0, 1, 0);
        Check.dueMessage(x, 1, Check.READ, 1, 2, 1, 0, 1, 0);
        Check.deliverFirst(x, Check.READ);
        Check.dueMessage(x, 1, Check.GOT, 1, 1, 1, -7, 1, 0);

        Face empty = new Real(5, 2, 1);
        empty.recover(2);
        Check.deliverFirst(empty, 1, 1, 1, 1, 1, 5, 5, 5, 5, 5);
        Check.deliverFirst(empty, Check.READ);
        Check.dueMessage(empty, 1, Check.MISSING, 2, 0, 0, 0, 1, 0);

        // with Q 3 of 3 one FENCED is enough to read on
        Face early = new Real(3, 3, 3);
        early.recover(1);
        Check.deliverFirst(early, Check.FENCE);
        Check.due("deliver(2)", early.deliver(2), Check.FENCED);
        Check.dueRecoverer(early, 1, 2, 1, 0, 0, -1);
        early.lose(0);
        early.lose(0);
        Check.due("deliver(1)", early.deliver(1), Check.READ);
        Check.dueStore(early, 0, 1, 1, -1, 0);
        Check.dueStore(early, 1, 1, 1, -1, 0);
        Check.dueStore(early, 2, 1, 0, -1, 0);
    }

    private static void answerFindsRoomInFullChannel() {
        Face x = new Real(5, 5, 3);
        for (int e = 0; e < 4; e++) {
            x.add(30 + e);
        }
        Check.due("deliver(7)", x.deliver(7), Check.ADD);
        Check.due("flight()", x.flight(), 20);
        Check.dueMessage(x, 6, Check.ADD, 0, 2, 1, 31, 0, -1);
        Check.dueMessage(x, 7, Check.ADD, 0, 4, 1, 31, 0, -1);
        Check.dueMessage(x, 19, Check.ADDED, 0, 3, 1, 0, 0, 0);
    }

    private static void writerCountsInOrder() {
        Face x = new Real(3, 2, 2);
        x.add(1);
        x.add(2);
        x.add(3);
        for (int k = 0; k < 6; k++) {
            Check.deliverFirst(x, Check.ADD);
        }
        x.deliver(2);
        x.deliver(2);
        Check.due("answers(1)", x.answers(1), 2);
        Check.due("writer(2)", x.writer(2), -1);
        Check.deliverFirst(x, Check.ADDED);
        Check.due("writer(2)", x.writer(2), -1);
        Check.deliverFirst(x, Check.ADDED);
        Check.due("writer(2) past entry 1", x.writer(2), 1);
        Check.deliverFirst(x, Check.ADDED);
        Check.due("writer(2)", x.writer(2), 1);
        Check.deliverFirst(x, Check.ADDED);
        Check.due("writer(2)", x.writer(2), 2);

        Face twice = new Real(3, 2, 2);
        twice.add(1);
        twice.resend(0);
        twice.deliver(0);
        twice.deliver(1);
        Check.deliverFirst(twice, Check.ADD, Check.ADD, Check.ADDED, Check.ADDED);
        Check.due("answers(0) of one store twice", twice.answers(0), 1);
        Check.dueWriter(twice, 0, 1, -1);
    }
}
