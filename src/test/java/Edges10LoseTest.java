public final class Edges10LoseTest {
    public static void main(String[] args) {
        String lost = "Message i of the channel is lost: true";
        Check.edge(lost, Edges10LoseTest::first);
        Check.edge(lost, Edges10LoseTest::lastOfTwenty);
        Check.edge(lost, Edges10LoseTest::doesNothingElse);
        String none = "false if there is none such";
        Check.edge(none, Edges10LoseTest::emptyChannel);
        Check.edge(none, Edges10LoseTest::tooSmall);
        Check.edge(none, Edges10LoseTest::tooLarge);
        Check.edge(none, Edges10LoseTest::behindTwenty);
        Check.edge(none, Edges10LoseTest::emptyAgain);
        Check.end();
    }

    private static void first() {
        Face x = new Real(3, 2, 1);
        x.add(5);
        Check.due("lose(0)", x.lose(0), true);
        Check.due("flight()", x.flight(), 1);
        Check.dueMessage(x, 0, Check.ADD, 0, 1, 0, 5, 0, -1);
    }

    private static void lastOfTwenty() {
        Face x = Scene.full();
        Check.due("lose(19)", x.lose(19), true);
        Check.due("flight()", x.flight(), 19);
        Check.dueMessage(x, 18, Check.ADD, 0, 1, 3, 33);
        Check.due("message(19, 0)", x.message(19, 0), FencedLedger.NONE);
    }

    private static void doesNothingElse() {
        Face x = new Real(3, 2, 1);
        x.add(5);
        x.recover(1);
        Check.loseAll(x);
        for (int s = 0; s < 3; s++) {
            Check.dueStore(x, s, 1, 0, -1, 0);
        }
        Check.dueWriter(x, 0, 1, -1);
        Check.dueRecoverer(x, 1, 1, 1, 0, 0, -1);
    }

    private static void emptyChannel() {
        Refusal.due("lose(0) of none", Scene::empty, x -> x.lose(0), false);
    }

    private static void tooSmall() {
        for (int i : new int[] {Integer.MIN_VALUE, -1}) {
            Refusal.due("lose(" + i + ")", Scene::writingBack, x -> x.lose(i), false);
            Refusal.due("lose(" + i + ") of 20", Scene::full, x -> x.lose(i), false);
        }
    }

    private static void tooLarge() {
        int flight = Scene.writingBack().flight();
        for (int i : new int[] {flight, flight + 1, 19, 20, Integer.MAX_VALUE}) {
            Refusal.due("lose(" + i + ")", Scene::writingBack, x -> x.lose(i), false);
        }
    }

    private static void behindTwenty() {
        for (int i : new int[] {20, 21, Integer.MAX_VALUE}) {
            Refusal.due("lose(" + i + ") of 20", Scene::full, x -> x.lose(i), false);
        }
    }

    private static void emptyAgain() {
        Face x = new Real(3, 2, 1);
        x.add(5);
        Check.due("lose(1)", x.lose(1), true);
        Check.due("lose(0)", x.lose(0), true);
        Check.due("lose(0) of none", x.lose(0), false);
        Check.due("flight()", x.flight(), 0);
    }
}
