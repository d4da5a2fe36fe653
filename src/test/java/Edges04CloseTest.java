public final class Edges04CloseTest {
    public static void main(String[] args) {
        String last = "it becomes CLOSED with LAC as its LAST";
        Check.edge(last, Edges04CloseTest::withNone);
        Check.edge(last, Edges04CloseTest::withEntriesAboveLac);
        Check.edge(last, Edges04CloseTest::withTwenty);
        Check.edge("its VERSION grows by 1", Edges04CloseTest::versionGrows);
        String writing = "false if the writer is not WRITING";
        Check.edge(writing, Edges04CloseTest::whenStopped);
        Check.edge(writing, Edges04CloseTest::whenDone);
        Check.edge(writing, Edges04CloseTest::whenGone);
        String open = "or the ledger not OPEN";
        Check.edge(open, Edges04CloseTest::whenRecovering);
        Check.edge(open, Edges04CloseTest::whenRecoveryWasAbandoned);
        Check.edge(open, Edges04CloseTest::whenClosedByRecoverer);
        Check.end();
    }

    private static void withNone() {
        Face x = new Real(3, 2, 1);
        Check.due("close()", x.close(), true);
        Check.dueLedger(x, 2, 1, -1);
        Check.dueWriter(x, 2, 0, -1);
    }

    private static void withEntriesAboveLac() {
        Face x = Scene.writing();
        Check.due("close()", x.close(), true);
        Check.dueLedger(x, 2, 1, 1);
        Check.dueWriter(x, 2, 3, 1);
    }

    private static void withTwenty() {
        Face x = Scene.twentyEntries();
        Check.due("close()", x.close(), true);
        Check.dueLedger(x, 2, 1, 19);
        Check.dueWriter(x, 2, 20, 19);
    }

    private static void versionGrows() {
        Face x = new Real(3, 2, 1);
        Check.due("ledger(1)", x.ledger(1), 0);
        x.close();
        Check.due("ledger(1)", x.ledger(1), 1);
    }

    private static void whenStopped() {
        Refusal.due("close() when STOPPED", Scene::stopped, x -> x.close(), false);
    }

    private static void whenDone() {
        Refusal.due("close() when DONE", Scene::done, x -> x.close(), false);
    }

    private static void whenGone() {
        Refusal.due("close() when GONE", Scene::gone, x -> x.close(), false);
    }

    private static void whenRecovering() {
        Refusal.due("close() while FENCING", Scene::fencing, x -> x.close(), false);
        Refusal.due("close() while READING", Scene::reading, x -> x.close(), false);
    }

    private static void whenRecoveryWasAbandoned() {
        Refusal.due("close() behind abandon", Scene::abandoned, x -> x.close(), false);
    }

    private static void whenClosedByRecoverer() {
        Check.due("writer(0)", Scene.recovered().writer(0), 0);
        Refusal.due("close() behind recovery", Scene::recovered, x -> x.close(), false);
    }
}
