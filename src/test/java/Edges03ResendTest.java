public final class Edges03ResendTest {
    private static final int NONE = FencedLedger.NONE;

    public static void main(String[] args) {
        Check.edge("with LAC as it is now", Edges03ResendTest::lacHasGrown);
        String silent = "to those stores of its SET that have not answered ADDED to it";
        Check.edge(silent, Edges03ResendTest::nobodyHasAnswered);
        Check.edge(silent, Edges03ResendTest::oneHasNotAnswered);
        Check.edge(silent, Edges03ResendTest::answerIsOnItsWay);
        Check.edge("to how many", Edges03ResendTest::allAnsweredAboveLac);
        Check.edge("to how many", Edges03ResendTest::fullChannel);
        String writing = "NONE if the writer is not WRITING";
        Check.edge(writing, Edges03ResendTest::whenStopped);
        Check.edge(writing, Edges03ResendTest::whenDone);
        Check.edge(writing, Edges03ResendTest::whenGone);
        String added = "e was not added";
        Check.edge(added, Edges03ResendTest::tooSmall);
        Check.edge(added, Edges03ResendTest::tooLarge);
        Check.edge(added, Edges03ResendTest::noneAdded);
        Check.edge(added, Edges03ResendTest::behindTheLastOfTwenty);
        String answered = "or e is at most LAC and all of its SET have answered";
        Check.edge(answered, Edges03ResendTest::allAnsweredAtLac);
        Check.edge(answered, Edges03ResendTest::allAnsweredBelowLac);
        Check.edge(answered, Edges03ResendTest::notAllAnsweredAtLac);
        Check.edge(answered, Edges03ResendTest::notAllAnsweredBelowLac);
        Check.end();
    }

    /** N 3, W 2, Q 1: entry 0 is counted with one answer, behind which entry 1 was sent. */
    private static void lacHasGrown() {
        Face x = new Real(3, 2, 1);
        x.add(4);
        x.add(5);
        Check.due("the mark", x.message(2, 6), -1);
        Check.passWithAnswer(x, Check.ADD, 0, Check.ADDED);
        Check.loseAll(x);
        Check.due("resend(1)", x.resend(1), 2);
        Check.dueMessage(x, 0, Check.ADD, 0, 1, 1, 5, 0, 0);
        Check.dueMessage(x, 1, Check.ADD, 0, 2, 1, 5, 0, 0);
    }

    private static void nobodyHasAnswered() {
        Face x = new Real(5, 5, 3);
        x.add(4);
        Check.loseAll(x);
        Check.due("resend(0)", x.resend(0), 5);
        Check.due("flight()", x.flight(), 5);
    }

    private static void oneHasNotAnswered() {
        Face x = new Real(4, 3, 3);
        x.add(4);
        x.lose(1);
        Check.deliverAll(x);
        Check.due("resend(0)", x.resend(0), 1);
        Check.due("flight()", x.flight(), 1);
        Check.dueMessage(x, 0, Check.ADD, 0, 1, 0, 4, 0, -1);
    }

    private static void answerIsOnItsWay() {
        Face x = new Real(3, 2, 1);
        x.add(4);
        Check.deliverFirst(x, Check.ADD, Check.ADD);
        Check.due("resend(0)", x.resend(0), 2);
        Check.due("flight()", x.flight(), 4);
    }

    private static Face entryOneAnswered() {
        Face x = new Real(3, 2, 2);
        x.add(4);
        x.add(5);
        x.lose(0);
        x.lose(0);
        Check.deliverAll(x);
        Check.due("answers(1)", x.answers(1), 2);
        Check.due("writer(2)", x.writer(2), -1);
        return x;
    }

    /** The words that say NONE ask for an entry at most LAC, so this one goes to 0 stores. */
    private static void allAnsweredAboveLac() {
        Face x = entryOneAnswered();
        Check.due("resend(1)", x.resend(1), 0);
        Check.due("flight()", x.flight(), 0);
    }

    /** What a full channel loses was sent, too. */
    private static void fullChannel() {
        Face x = Scene.full();
        Check.due("resend(3)", x.resend(3), 5);
        Check.due("flight()", x.flight(), 20);
    }

    private static void whenStopped() {
        Refusal.due("resend when STOPPED", Scene::stopped, x -> x.resend(2), NONE);
    }

    private static void whenDone() {
        Refusal.due("resend when DONE", Scene::done, x -> x.resend(2), NONE);
    }

    private static void whenGone() {
        Refusal.due("resend when GONE", Scene::gone, x -> x.resend(2), NONE);
    }

    private static void tooSmall() {
        Refusal.due("resend(-1)", Scene::writing, x -> x.resend(-1), NONE);
        Refusal.due("resend(least)", Scene::writing, x -> x.resend(Integer.MIN_VALUE), NONE);
    }

    private static void tooLarge() {
        Check.due("resend(2) of three", Scene.writing().resend(2), 3);
        for (int e : new int[] {3, 19, 20, Integer.MAX_VALUE}) {
            Refusal.due("resend(" + e + ") of three", Scene::writing, x -> x.resend(e), NONE);
        }
    }

    private static void noneAdded() {
        Refusal.due("resend(0) of none", Scene::empty, x -> x.resend(0), NONE);
    }

    private static void behindTheLastOfTwenty() {
        Face x = Check.counted(3, 2, 1, new int[19]);
        x.add(7);
        Check.due("resend(19)", x.resend(19), 2);
        Refusal.due("resend(20)", Scene::twentyEntries, y -> y.resend(20), NONE);
    }

    private static void allAnsweredAtLac() {
        Refusal.due("resend(1) at LAC 1", Scene::writing, x -> x.resend(1), NONE);
    }

    private static void allAnsweredBelowLac() {
        Refusal.due("resend(0) below LAC 1", Scene::writing, x -> x.resend(0), NONE);
    }

    /** N 3, W 3, Q 1: entries 0 and 1 are counted with one answer each. */
    private static Face oneAnswerEach() {
        Face x = new Real(3, 3, 1);
        x.add(4);
        x.add(5);
        Check.passWithAnswer(x, Check.ADD, 0, Check.ADDED);
        x.lose(0);
        x.lose(0);
        Check.passWithAnswer(x, Check.ADD, 1, Check.ADDED);
        Check.loseAll(x);
        Check.dueWriter(x, 0, 2, 1);
        return x;
    }

    private static void notAllAnsweredAtLac() {
        Face x = oneAnswerEach();
        Check.due("resend(1) at LAC 1", x.resend(1), 2);
        Check.dueMessage(x, 0, Check.ADD, 0, 2, 1, 5, 0, 1);
        Check.dueMessage(x, 1, Check.ADD, 0, 0, 1, 5, 0, 1);
    }

    private static void notAllAnsweredBelowLac() {
        Face x = oneAnswerEach();
        Check.due("resend(0) below LAC 1", x.resend(0), 2);
        Check.dueMessage(x, 0, Check.ADD, 0, 1, 0, 4, 0, 1);
        Check.dueMessage(x, 1, Check.ADD, 0, 2, 0, 4, 0, 1);
    }
}
