public final class Edges16WriterTest {
    private static final int NONE = FencedLedger.NONE;

    public static void main(String[] args) {
        Check.edge("w = 0: its state", Edges16WriterTest::everyState);
        Check.edge("1: how many entries it has added", Edges16WriterTest::noneAndTwenty);
        Check.edge("1: how many entries it has added", Edges16WriterTest::refusedAddDoesNotCount);
        Check.edge("2: LAC", Edges16WriterTest::smallestAndLargestLac);
        Check.edge("NONE for any other w", Edges16WriterTest::tooSmall);
        Check.edge("NONE for any other w", Edges16WriterTest::tooLarge);
        Check.end();
    }

    private static void everyState() {
        Check.due("WRITING", Scene.writing().writer(0), 0);
        Check.due("STOPPED", Scene.stopped().writer(0), 1);
        Check.due("DONE", Scene.done().writer(0), 2);
        Check.due("GONE", Scene.gone().writer(0), 3);
    }

    private static void noneAndTwenty() {
        Check.due("writer(1)", new Real(3, 2, 1).writer(1), 0);
        Check.due("writer(1)", Scene.twentyEntries().writer(1), 20);
    }

    private static void refusedAddDoesNotCount() {
        Face x = Scene.full();
        Check.dueThrow("add", IndexOutOfBoundsException.class, () -> x.add(9));
        Check.due("writer(1)", x.writer(1), 4);
    }

    private static void smallestAndLargestLac() {
        Check.due("writer(2)", new Real(3, 2, 1).writer(2), -1);
        Check.due("writer(2)", Scene.twentyEntries().writer(2), 19);
    }

    private static void tooSmall() {
        for (int w : new int[] {Integer.MIN_VALUE, -1}) {
            Refusal.due("writer(" + w + ")", Scene::writing, x -> x.writer(w), NONE);
        }
    }

    private static void tooLarge() {
        for (int w : new int[] {3, 4, Integer.MAX_VALUE}) {
            Refusal.due("writer(" + w + ")", Scene::writing, x -> x.writer(w), NONE);
        }
    }
}
