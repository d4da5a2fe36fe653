public final class Edges06RecoverTest {
    public static void main(String[] args) {
        String closed = "If the ledger is CLOSED, it is DONE.";
        Check.edge(closed, Edges06RecoverTest::closedByWriter);
        Check.edge(closed, Edges06RecoverTest::closedByOther);
        Check.edge(closed, Edges06RecoverTest::closedBehindAbandon);
        String begins = "the ledger is RECOVERING, its VERSION grows by 1, and this is the"
                + " recoverer's TERM";
        Check.edge(begins, Edges06RecoverTest::firstRecovery);
        Check.edge(begins, Edges06RecoverTest::bothAtOnce);
        Check.edge("nobody has ANSWERED", Edges06RecoverTest::nobodyHasAnsweredAgain);
        Check.edge("its highest MARK is -1", Edges06RecoverTest::highestMarkAgain);
        String fence = "FENCE is sent to all stores, 0 first";
        Check.edge(fence, Edges06RecoverTest::fenceToAll);
        Check.edge(fence, Edges06RecoverTest::fenceToOneThatIsDown);
        Check.edge("false if there is none such", Edges06RecoverTest::tooSmall);
        Check.edge("false if there is none such", Edges06RecoverTest::tooLarge);
        String idle = "or it is not IDLE";
        Check.edge(idle, Edges06RecoverTest::whileFencing);
        Check.edge(idle, Edges06RecoverTest::whileReading);
        Check.edge(idle, Edges06RecoverTest::whileWritingBack);
        Check.edge(idle, Edges06RecoverTest::whenDone);
        Check.edge(idle, Edges06RecoverTest::whenAbandoned);
        Check.end();
    }

    private static void closedByWriter() {
        Face x = Scene.done();
        int flight = x.flight();
        Check.due("recover(2)", x.recover(2), true);
        Check.dueRecoverer(x, 2, 4, 0, 0, 0, -1);
        Check.dueLedger(x, 2, 1, 1);
        Check.due("flight()", x.flight(), flight);
    }

    private static void closedByOther() {
        Face x = Scene.recovered();
        Check.due("recover(2)", x.recover(2), true);
        Check.dueRecoverer(x, 2, 4, 0, 0, 0, -1);
        Check.dueLedger(x, 2, 2, 2);
        Check.due("flight()", x.flight(), 0);
    }

    private static void closedBehindAbandon() {
        Face x = Scene.abandoned();
        x.recover(2);
        Check.deliverAll(x);
        Check.dueLedger(x, 2, 3, 2);
        Check.due("recover(1)", x.recover(1), true);
        Check.dueRecoverer(x, 1, 4, 1, 2, 1, 1);
        Check.dueLedger(x, 2, 3, 2);
        Check.due("flight()", x.flight(), 0);
    }

    private static void firstRecovery() {
        Face x = Scene.writing();
        Check.due("recover(1)", x.recover(1), true);
        Check.dueLedger(x, 1, 1, -1);
        Check.dueRecoverer(x, 1, 1, 1, 0, 0, -1);
    }

    private static void bothAtOnce() {
        Face x = Scene.writingBack();
        Check.due("recover(2)", x.recover(2), true);
        Check.dueLedger(x, 1, 2, -1);
        Check.dueRecoverer(x, 2, 1, 2, 0, 0, -1);
        Check.dueRecoverer(x, 1, 3, 1, 2, 1, 1);
    }

    private static void nobodyHasAnsweredAgain() {
        Face x = Scene.fencing();
        x.abandon(1);
        Check.due("recoverer(1, 3)", x.recoverer(1, 3), 2);
        x.recover(1);
        Check.due("recoverer(1, 3)", x.recoverer(1, 3), 0);
        Check.due("retry(1)", x.retry(1), 4);
    }

    private static void highestMarkAgain() {
        Face x = Scene.abandoned();
        Check.due("recoverer(1, 4)", x.recoverer(1, 4), 1);
        x.recover(1);
        Check.due("recoverer(1, 4)", x.recoverer(1, 4), -1);
    }

    private static void fenceToAll() {
        for (int n = 3; n <= 5; n++) {
            Face x = new Real(n, 2, 1);
            x.recover(2);
            Check.due("flight()", x.flight(), n);
            for (int s = 0; s < n; s++) {
                Check.dueMessage(x, s, Check.FENCE, 2, s, 0, 0, 1, 0);
            }
        }
    }

    private static void fenceToOneThatIsDown() {
        Face x = new Real(3, 2, 1);
        x.power(0, false);
        x.recover(1);
        Check.due("flight()", x.flight(), 3);
        Check.dueMessage(x, 0, Check.FENCE, 1, 0);
    }

    private static void tooSmall() {
        for (int r : new int[] {Integer.MIN_VALUE, -1, 0}) {
            Refusal.due("recover(" + r + ")", Scene::writing, x -> x.recover(r), false);
        }
    }

    private static void tooLarge() {
        Check.due("recover(2)", Scene.writing().recover(2), true);
        for (int r : new int[] {3, 4, Integer.MAX_VALUE}) {
            Refusal.due("recover(" + r + ")", Scene::writing, x -> x.recover(r), false);
        }
        Refusal.due("recover(3) when CLOSED", Scene::done, x -> x.recover(3), false);
    }

    private static void whileFencing() {
        Refusal.due("recover(1) while FENCING", Scene::fencing, x -> x.recover(1), false);
    }

    private static void whileReading() {
        Refusal.due("recover(1) while READING", Scene::reading, x -> x.recover(1), false);
    }

    private static void whileWritingBack() {
        Refusal.due("recover(1) while WRITING BACK", Scene::writingBack, x -> x.recover(1), false);
    }

    private static void whenDone() {
        Refusal.due("recover(1) when DONE", Scene::recovered, x -> x.recover(1), false);
    }

    private static void whenAbandoned() {
        Face x = Scene.abandoned();
        Check.due("recover(1)", x.recover(1), true);
        Check.dueRecoverer(x, 1, 1, 2, 2, 0, -1);
    }
}
