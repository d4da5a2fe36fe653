public final class Edges09DeliverTest {
    private static final int NONE = FencedLedger.NONE;

    public static void main(String[] args) {
        Check.edge("(0 is the first)", Edges09DeliverTest::first);
        Check.edge("(0 is the first)", Edges09DeliverTest::lastOfTwenty);
        Check.edge("leaves it and is delivered", Edges09DeliverTest::theOthersMoveUp);
        Check.edge("its kind", Edges09DeliverTest::everyKind);
        Check.edge("its kind", Edges09DeliverTest::kindOfOneThatIsLost);
        Check.edge("its kind", Edges09DeliverTest::kindOfOneThatIsNotHeard);
        String none = "NONE if there is none such";
        Check.edge(none, Edges09DeliverTest::emptyChannel);
        Check.edge(none, Edges09DeliverTest::tooSmall);
        Check.edge(none, Edges09DeliverTest::tooLarge);
        Check.edge(none, Edges09DeliverTest::behindTwenty);
        Check.edge(none, Edges09DeliverTest::emptyAgain);
        Check.end();
    }

    private static void first() {
        Face x = new Real(3, 2, 1);
        x.add(5);
        Check.due("deliver(0)", x.deliver(0), Check.ADD);
        Check.due("has(0, 0)", x.has(0, 0), true);
        Check.due("has(1, 0)", x.has(1, 0), false);
    }

    private static void lastOfTwenty() {
        Face x = Scene.full();
        Check.dueMessage(x, 19, Check.ADD, 0, 2, 3, 33);
        Check.due("deliver(19)", x.deliver(19), Check.ADD);
        Check.due("has(2, 3)", x.has(2, 3), true);
        Check.dueMessage(x, 19, Check.ADDED, 0, 2, 3);
    }

    private static void theOthersMoveUp() {
        Face x = Scene.full();
        Check.due("deliver(10)", x.deliver(10), Check.ADD);
        Check.due("has(2, 2)", x.has(2, 2), true);
        Check.dueMessage(x, 9, Check.ADD, 0, 0, 1, 31);
        Check.dueMessage(x, 10, Check.ADD, 0, 3, 2, 32);
        Check.dueMessage(x, 18, Check.ADD, 0, 2, 3, 33);
        Check.dueMessage(x, 19, Check.ADDED, 0, 2, 2);
    }

    private static void everyKind() {
        Face x = Scene.writing();
        x.recover(1);
        Check.deliverFirst(x, 1, 1, 1, 1, 5, 5, 5, 5, 2, 2, 2, 6, 7, 7, 0, 0, 0, 3, 3, 3);
        x.resend(2);
        Check.loseAllBut(x, Check.ADD);
        Check.deliverFirst(x, Check.ADD);
        Check.due("deliver of REFUSED", x.deliver(x.flight() - 1), 4);
    }

    private static void kindOfOneThatIsLost() {
        Face x = Scene.writing();
        x.recover(1);
        x.power(3, false);
        Check.due("deliver(3), to a store that is down", x.deliver(3), Check.FENCE);
        Check.due("flight()", x.flight(), 3);
    }

    private static void kindOfOneThatIsNotHeard() {
        Face x = new Real(3, 2, 1);
        x.add(5);
        Check.deliverFirst(x, Check.ADD, Check.ADD);
        x.leave();
        Check.due("deliver(0), to a writer that is GONE", x.deliver(0), Check.ADDED);
        Check.due("flight()", x.flight(), 1);
    }

    private static void emptyChannel() {
        Refusal.due("deliver(0) of none", Scene::empty, x -> x.deliver(0), NONE);
    }

    private static void tooSmall() {
        for (int i : new int[] {Integer.MIN_VALUE, -1}) {
            Refusal.due("deliver(" + i + ")", Scene::writingBack, x -> x.deliver(i), NONE);
            Refusal.due("deliver(" + i + ") of 20", Scene::full, x -> x.deliver(i), NONE);
        }
    }

    private static void tooLarge() {
        int flight = Scene.writingBack().flight();
        for (int i : new int[] {flight, flight + 1, 19, 20, Integer.MAX_VALUE}) {
            Refusal.due("deliver(" + i + ")", Scene::writingBack, x -> x.deliver(i), NONE);
        }
    }

    private static void behindTwenty() {
        for (int i : new int[] {20, 21, Integer.MAX_VALUE}) {
            Refusal.due("deliver(" + i + ") of 20", Scene::full, x -> x.deliver(i), NONE);
        }
    }

    private static void emptyAgain() {
        Face x = new Real(3, 2, 1);
        x.add(5);
        x.lose(1);
        Check.deliverFirst(x, Check.ADD, Check.ADDED, NONE);
    }
}
