public final class Edges07RetryTest {
    private static final int NONE = FencedLedger.NONE;

    public static void main(String[] args) {
        String silent = "to those of the stores that have not ANSWERED, in the same order";
        Check.edge(silent, Edges07RetryTest::fenceToAll);
        Check.edge(silent, Edges07RetryTest::fenceToSome);
        Check.edge(silent, Edges07RetryTest::readToAll);
        Check.edge(silent, Edges07RetryTest::readToSome);
        Check.edge(silent, Edges07RetryTest::addToAll);
        Check.edge(silent, Edges07RetryTest::addToSome);
        Check.edge("to how many", Edges07RetryTest::toOne);
        Check.edge("to how many", Edges07RetryTest::fullChannel);
        Check.edge("NONE if there is none such", Edges07RetryTest::tooSmall);
        Check.edge("NONE if there is none such", Edges07RetryTest::tooLarge);
        Check.edge("or it is IDLE or DONE", Edges07RetryTest::idleAtFirst);
        Check.edge("or it is IDLE or DONE", Edges07RetryTest::idleAgain);
        Check.edge("or it is IDLE or DONE", Edges07RetryTest::done);
        Check.end();
    }

    private static void fenceToAll() {
        Face x = new Real(5, 2, 1);
        x.recover(2);
        Check.loseAll(x);
        Check.due("retry(2)", x.retry(2), 5);
        for (int s = 0; s < 5; s++) {
            Check.dueMessage(x, s, Check.FENCE, 2, s, 0, 0, 1, 0);
        }
    }

    private static void fenceToSome() {
        Face x = Scene.fencing();
        Check.loseAll(x);
        Check.due("retry(1)", x.retry(1), 2);
        Check.due("flight()", x.flight(), 2);
        Check.dueMessage(x, 0, Check.FENCE, 1, 2, 0, 0, 1, 0);
        Check.dueMessage(x, 1, Check.FENCE, 1, 3, 0, 0, 1, 0);
    }

    private static void readToAll() {
        Face x = Scene.fencing();
        Check.passWithAnswer(x, Check.FENCE, 2, Check.FENCED);
        Check.loseAll(x);
        Check.due("retry(1)", x.retry(1), 3);
        Check.dueMessage(x, 0, Check.READ, 1, 2, 2, 0, 1, 0);
        Check.dueMessage(x, 1, Check.READ, 1, 3, 2, 0, 1, 0);
        Check.dueMessage(x, 2, Check.READ, 1, 0, 2, 0, 1, 0);
    }

    private static void readToSome() {
        Face x = Scene.reading();
        Check.loseAll(x);
        Check.due("retry(1)", x.retry(1), 2);
        Check.due("flight()", x.flight(), 2);
        Check.dueMessage(x, 0, Check.READ, 1, 2, 2, 0, 1, 0);
        Check.dueMessage(x, 1, Check.READ, 1, 0, 2, 0, 1, 0);
    }

    private static void addToAll() {
        Face x = Scene.reading();
        Check.passWithAnswer(x, Check.READ, 2, Check.GOT);
        Check.loseAll(x);
        Check.due("retry(1)", x.retry(1), 3);
        Check.dueMessage(x, 0, Check.ADD, 1, 2, 2, 52, 1, 1);
        Check.dueMessage(x, 1, Check.ADD, 1, 3, 2, 52, 1, 1);
        Check.dueMessage(x, 2, Check.ADD, 1, 0, 2, 52, 1, 1);
    }

    private static void addToSome() {
        Face x = Scene.writingBack();
        Check.loseAll(x);
        Check.due("retry(1)", x.retry(1), 2);
        Check.due("flight()", x.flight(), 2);
        Check.dueMessage(x, 0, Check.ADD, 1, 2, 2, 52, 1, 1);
        Check.dueMessage(x, 1, Check.ADD, 1, 0, 2, 52, 1, 1);
    }

    private static void toOne() {
        Face x = new Real(3, 2, 1);
        x.recover(1);
        Check.passWithAnswer(x, Check.FENCE, 0, Check.FENCED);
        Check.passWithAnswer(x, Check.FENCE, 2, Check.FENCED);
        Check.loseAll(x);
        Check.due("retry(1)", x.retry(1), 1);
        Check.due("flight()", x.flight(), 1);
        Check.dueMessage(x, 0, Check.FENCE, 1, 1, 0, 0, 1, 0);
    }

    /** What a full channel loses was sent, too. */
    private static void fullChannel() {
        Face x = Scene.full();
        x.recover(1);
        Check.due("retry(1)", x.retry(1), 5);
        Check.due("flight()", x.flight(), 20);
    }

    private static void tooSmall() {
        for (int r : new int[] {Integer.MIN_VALUE, -1, 0}) {
            Refusal.due("retry(" + r + ")", Scene::writingBack, x -> x.retry(r), NONE);
        }
    }

    private static void tooLarge() {
        for (int r : new int[] {3, 4, Integer.MAX_VALUE}) {
            Refusal.due("retry(" + r + ")", Scene::writingBack, x -> x.retry(r), NONE);
        }
    }

    private static void idleAtFirst() {
        Refusal.due("retry(2) while 1 recovers", Scene::fencing, x -> x.retry(2), NONE);
        Refusal.due("retry(1) of a new object", Scene::empty, x -> x.retry(1), NONE);
    }

    private static void idleAgain() {
        Refusal.due("retry(1) behind abandon", Scene::abandoned, x -> x.retry(1), NONE);
    }

    private static void done() {
        Refusal.due("retry(1) when DONE", Scene::recovered, x -> x.retry(1), NONE);
    }
}
