public final class Edges08AbandonTest {
    public static void main(String[] args) {
        String idle = "Recoverer r becomes IDLE: true";
        Check.edge(idle, Edges08AbandonTest::whileFencing);
        Check.edge(idle, Edges08AbandonTest::whileReading);
        Check.edge(idle, Edges08AbandonTest::whileWritingBack);
        Check.edge(idle, Edges08AbandonTest::theOtherGoesOn);
        Check.edge("false if there is none such", Edges08AbandonTest::tooSmall);
        Check.edge("false if there is none such", Edges08AbandonTest::tooLarge);
        Check.edge("or it is IDLE or DONE", Edges08AbandonTest::idleAtFirst);
        Check.edge("or it is IDLE or DONE", Edges08AbandonTest::idleAgain);
        Check.edge("or it is IDLE or DONE", Edges08AbandonTest::done);
        Check.end();
    }

    private static void gives(Face x, int... want) {
        int flight = x.flight();
        Check.due("abandon(1)", x.abandon(1), true);
        Check.dueRecoverer(x, 1, want);
        Check.dueLedger(x, 1, 1, -1);
        Check.due("flight()", x.flight(), flight);
    }

    private static void whileFencing() {
        gives(Scene.fencing(), 0, 1, 0, 2, 0);
    }

    private static void whileReading() {
        gives(Scene.reading(), 0, 1, 2, 1, 1);
    }

    private static void whileWritingBack() {
        gives(Scene.writingBack(), 0, 1, 2, 1, 1);
    }

    private static void theOtherGoesOn() {
        Face x = Scene.reading();
        x.recover(2);
        Check.due("abandon(2)", x.abandon(2), true);
        Check.dueRecoverer(x, 1, 2, 1, 2, 1, 1);
        Check.dueRecoverer(x, 2, 0, 2, 0, 0, -1);
    }

    private static void tooSmall() {
        for (int r : new int[] {Integer.MIN_VALUE, -1, 0}) {
            Refusal.due("abandon(" + r + ")", Scene::reading, x -> x.abandon(r), false);
        }
    }

    private static void tooLarge() {
        for (int r : new int[] {3, 4, Integer.MAX_VALUE}) {
            Refusal.due("abandon(" + r + ")", Scene::reading, x -> x.abandon(r), false);
        }
    }

    private static void idleAtFirst() {
        Refusal.due("abandon(1) of a new object", Scene::empty, x -> x.abandon(1), false);
        Refusal.due("abandon(2) while 1 recovers", Scene::reading, x -> x.abandon(2), false);
    }

    private static void idleAgain() {
        Refusal.due("abandon(1) again", Scene::abandoned, x -> x.abandon(1), false);
    }

    private static void done() {
        Refusal.due("abandon(1) when DONE", Scene::recovered, x -> x.abandon(1), false);
    }
}
