public final class Edges05LeaveTest {
    public static void main(String[] args) {
        String gone = "The writer is GONE: true";
        Check.edge(gone, Edges05LeaveTest::whileWriting);
        Check.edge(gone, Edges05LeaveTest::whenStopped);
        Check.edge(gone, Edges05LeaveTest::whenDone);
        Check.edge(gone, Edges05LeaveTest::atOnce);
        Check.edge("false if it is already", Edges05LeaveTest::alreadyGone);
        Check.end();
    }

    private static void leaves(Face x, int entries, int lac) {
        Check.due("leave()", x.leave(), true);
        Check.dueWriter(x, 3, entries, lac);
    }

    private static void whileWriting() {
        Face x = Scene.writing();
        leaves(x, 3, 1);
        Check.dueLedger(x, 0, 0, -1);
    }

    private static void whenStopped() {
        leaves(Scene.stopped(), 3, 1);
    }

    private static void whenDone() {
        Face x = Scene.done();
        leaves(x, 3, 1);
        Check.dueLedger(x, 2, 1, 1);
    }

    private static void atOnce() {
        leaves(new Real(3, 2, 1), 0, -1);
    }

    private static void alreadyGone() {
        Refusal.due("leave() when GONE", Scene::gone, x -> x.leave(), false);
    }
}
