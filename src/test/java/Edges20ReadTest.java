public final class Edges20ReadTest {
    private static final String STATE = "throws.IllegalStateException";
    private static final String BOUNDS = "throws.IndexOutOfBoundsException";
    private static final String NOBODY = "throws.UnsupportedOperationException";

    public static void main(String[] args) {
        String first = "from the first store of its SET (in the order of j) that is UP and has it";
        Check.edge(first, Edges20ReadTest::firstIsDown);
        Check.edge(first, Edges20ReadTest::firstDoesNotHaveIt);
        Check.edge(first, Edges20ReadTest::onlyTheLastHasIt);
        Check.edge(first, Edges20ReadTest::valueMinusOne);
        String closed = "IllegalStateException if the ledger is not CLOSED";
        Check.edge(closed, Edges20ReadTest::whenOpen);
        Check.edge(closed, Edges20ReadTest::whenRecovering);
        Check.edge(closed, Edges20ReadTest::whenOpenAndNoSuchEntry);
        String bounds = "IndexOutOfBoundsException if e is not 0 .. LAST";
        Check.edge(bounds, Edges20ReadTest::tooSmall);
        Check.edge(bounds, Edges20ReadTest::tooLarge);
        Check.edge(bounds, Edges20ReadTest::firstAndLast);
        Check.edge(bounds, Edges20ReadTest::noneIsLast);
        Check.edge(bounds, Edges20ReadTest::behindTheLastOfTwenty);
        Check.edge(bounds, Edges20ReadTest::beyondLastWithAllDown);
        String nobody = "UnsupportedOperationException if there is no such store";
        Check.edge(nobody, Edges20ReadTest::allDown);
        Check.edge(nobody, Edges20ReadTest::allOfTheSetDown);
        Check.edge(nobody, Edges20ReadTest::thoseThatHaveItAreDown);
        Check.edge(nobody, Edges20ReadTest::upAgain);
        Check.end();
    }

    private static void firstIsDown() {
        Face x = Scene.done();
        x.power(1, false);
        Check.due("read(1)", x.read(1), 51);
    }

    /** N 4, W 3, Q 1: entry 0 is on store 2 alone. */
    private static Face onStoreTwo(int value) {
        Face x = new Real(4, 3, 1);
        x.add(value);
        Check.passWithAnswer(x, Check.ADD, 2, Check.ADDED);
        Check.loseAll(x);
        x.close();
        Check.dueLedger(x, 2, 1, 0);
        return x;
    }

    private static void firstDoesNotHaveIt() {
        Face x = new Real(3, 2, 1);
        x.add(5);
        Check.passWithAnswer(x, Check.ADD, 1, Check.ADDED);
        Check.loseAll(x);
        x.close();
        Check.due("has(0, 0)", x.has(0, 0), false);
        Check.due("read(0)", x.read(0), 5);
    }

    private static void onlyTheLastHasIt() {
        Face x = onStoreTwo(5);
        x.power(0, false);
        Check.due("read(0)", x.read(0), 5);
    }

    private static void valueMinusOne() {
        Check.due("read(0)", onStoreTwo(-1).read(0), -1);
    }

    private static void whenOpen() {
        Refusal.due("read(0) when OPEN", Scene::writing, x -> x.read(0), STATE);
    }

    private static void whenRecovering() {
        Refusal.due("read(0) when RECOVERING", Scene::writingBack, x -> x.read(0), STATE);
        Refusal.due("read(0) when abandoned", Scene::abandoned, x -> x.read(0), STATE);
    }

    private static void whenOpenAndNoSuchEntry() {
        Refusal.due("read(-1) when OPEN", Scene::writing, x -> x.read(-1), STATE);
        Refusal.due("read(20) when OPEN", Scene::writing, x -> x.read(20), STATE);
        Refusal.due("read(3) when OPEN", Scene::writing, x -> x.read(3), STATE);
    }

    private static void tooSmall() {
        for (int e : new int[] {Integer.MIN_VALUE, -1}) {
            Refusal.due("read(" + e + ")", Scene::recovered, x -> x.read(e), BOUNDS);
        }
    }

    /** LAST is 1, though entry 2 is on store 2. */
    private static void tooLarge() {
        Check.due("has(2, 2)", Scene.done().has(2, 2), true);
        for (int e : new int[] {2, 3, 19, 20, Integer.MAX_VALUE}) {
            Refusal.due("read(" + e + ")", Scene::done, x -> x.read(e), BOUNDS);
        }
    }

    private static void firstAndLast() {
        Face x = Scene.done();
        Check.due("read(0)", x.read(0), 50);
        Check.due("read(1)", x.read(1), 51);
    }

    private static Face closedWithNone() {
        Face x = new Real(3, 2, 2);
        x.add(5);
        Check.deliverFirst(x, Check.ADD);
        x.close();
        return x;
    }

    private static void noneIsLast() {
        Refusal.due("read(0) of none", Edges20ReadTest::closedWithNone, x -> x.read(0), BOUNDS);
        Refusal.due("read(-1) of none", Edges20ReadTest::closedWithNone, x -> x.read(-1), BOUNDS);
    }

    private static Face twentyClosed() {
        Face x = Scene.twentyEntries();
        x.close();
        return x;
    }

    private static void behindTheLastOfTwenty() {
        Check.due("read(19)", twentyClosed().read(19), 89);
        Refusal.due("read(20)", Edges20ReadTest::twentyClosed, x -> x.read(20), BOUNDS);
    }

    private static Face closedAllDown() {
        Face x = Scene.done();
        for (int s = 0; s < 4; s++) {
            x.power(s, false);
        }
        return x;
    }

    private static void beyondLastWithAllDown() {
        Refusal.due("read(2)", Edges20ReadTest::closedAllDown, x -> x.read(2), BOUNDS);
    }

    private static void allDown() {
        Refusal.due("read(0)", Edges20ReadTest::closedAllDown, x -> x.read(0), NOBODY);
        Refusal.due("read(1)", Edges20ReadTest::closedAllDown, x -> x.read(1), NOBODY);
    }

    /** Entry 1 is on 1, 2 and 3; store 0 is UP. */
    private static Face setOfOneDown() {
        Face x = Scene.done();
        for (int s = 1; s < 4; s++) {
            x.power(s, false);
        }
        return x;
    }

    private static void allOfTheSetDown() {
        Check.due("read(0)", setOfOneDown().read(0), 50);
        Refusal.due("read(1)", Edges20ReadTest::setOfOneDown, x -> x.read(1), NOBODY);
    }

    private static Face storeTwoDown() {
        Face x = onStoreTwo(5);
        x.power(2, false);
        return x;
    }

    private static void thoseThatHaveItAreDown() {
        Refusal.due("read(0)", Edges20ReadTest::storeTwoDown, x -> x.read(0), NOBODY);
    }

    private static void upAgain() {
        Face x = storeTwoDown();
        Check.dueThrow("read(0)", UnsupportedOperationException.class, () -> x.read(0));
        x.power(2, true);
        Check.due("read(0)", x.read(0), 5);
    }
}
