public final class Edges02AddTest {
    private static final String STATE = "throws.IllegalStateException";
    private static final String BOUNDS = "throws.IndexOutOfBoundsException";

    public static void main(String[] args) {
        Check.edge("its number", Edges02AddTest::firstAndLastNumber);
        Check.edge("with LAC as its mark", Edges02AddTest::smallestAndLargestMark);
        String state = "IllegalStateException if the writer is not WRITING";
        Check.edge(state, Edges02AddTest::whenStopped);
        Check.edge(state, Edges02AddTest::whenDone);
        Check.edge(state, Edges02AddTest::whenGone);
        Check.edge(state, Edges02AddTest::whenGoneAndFull);
        Check.edge(state, Edges02AddTest::whileOthersRecover);
        Check.edge(state, Edges02AddTest::whenOthersClosed);
        String twenty = "IndexOutOfBoundsException if there are 20 entries";
        Check.edge(twenty, Edges02AddTest::withTwentyCounted);
        Check.edge(twenty, Edges02AddTest::withTwentyNotCounted);
        Check.edge(twenty, Edges02AddTest::withNineteen);
        String four = "or four above LAC";
        Check.edge(four, Edges02AddTest::fourAboveNone);
        Check.edge(four, Edges02AddTest::fourAboveEntry);
        Check.edge(four, Edges02AddTest::threeAbove);
        Check.edge(four, Edges02AddTest::fourAnsweredButNotInOrder);
        Check.end();
    }

    private static void firstAndLastNumber() {
        Face x = new Real(3, 2, 1);
        Check.due("the first add", x.add(5), 0);
        Face y = Check.counted(3, 2, 1, new int[19]);
        Check.due("the last add", y.add(5), 19);
    }

    private static void smallestAndLargestMark() {
        Face x = new Real(3, 2, 1);
        x.add(5);
        Check.dueMessage(x, 0, Check.ADD, 0, 0, 0, 5, 0, -1);
        Face y = Check.counted(3, 2, 1, new int[19]);
        y.add(5);
        Check.dueMessage(y, 0, Check.ADD, 0, 1, 19, 5, 0, 18);
    }

    private static void whenStopped() {
        Refusal.due("add when STOPPED", Scene::stopped, x -> x.add(9), STATE);
    }

    private static void whenDone() {
        Refusal.due("add when DONE", Scene::done, x -> x.add(9), STATE);
    }

    private static void whenGone() {
        Refusal.due("add when GONE", Scene::gone, x -> x.add(9), STATE);
    }

    private static Face goneWithFour() {
        Face x = Scene.full();
        x.leave();
        return x;
    }

    private static void whenGoneAndFull() {
        Refusal.due("add, GONE and four above", Edges02AddTest::goneWithFour, x -> x.add(9), STATE);
    }

    private static void whileOthersRecover() {
        Check.due("add while others recover", Scene.reading().add(9), 3);
    }

    private static void whenOthersClosed() {
        Check.due("add when others closed", Scene.recovered().add(9), 3);
    }

    private static void withTwentyCounted() {
        Refusal.due("add with 20", Scene::twentyEntries, x -> x.add(9), BOUNDS);
    }

    private static Face lastIsNotCounted() {
        Face x = Check.counted(3, 2, 1, new int[19]);
        x.add(9);
        Check.dueWriter(x, 0, 20, 18);
        return x;
    }

    private static void withTwentyNotCounted() {
        Refusal.due("add with 20", Edges02AddTest::lastIsNotCounted, x -> x.add(9), BOUNDS);
    }

    private static void withNineteen() {
        Face x = Check.counted(3, 2, 1, new int[19]);
        Check.due("add with 19", x.add(9), 19);
        Check.due("writer(1)", x.writer(1), 20);
        Check.due("flight()", x.flight(), 2);
    }

    private static void fourAboveNone() {
        Refusal.due("add with four above LAC -1", Scene::full, x -> x.add(9), BOUNDS);
    }

    private static Face fourAboveZero() {
        Face x = Check.counted(3, 2, 2, 40);
        for (int e = 1; e <= 4; e++) {
            x.add(40 + e);
        }
        Check.dueWriter(x, 0, 5, 0);
        return x;
    }

    private static void fourAboveEntry() {
        Refusal.due("add with four above LAC 0",
                Edges02AddTest::fourAboveZero, x -> x.add(9), BOUNDS);
    }

    private static void threeAbove() {
        Face x = new Real(3, 2, 2);
        x.add(1);
        x.add(2);
        x.add(3);
        Check.due("add with three above LAC -1", x.add(4), 3);
        Face y = fourAboveZero();
        Check.deliverFirst(y, Check.ADD, Check.ADD);
        Check.pass(y, Check.ADDED, 1);
        Check.dueThrow("add with four above", IndexOutOfBoundsException.class, () -> y.add(9));
        Check.pass(y, Check.ADDED, 2);
        Check.dueWriter(y, 0, 5, 1);
        Check.due("add with three above LAC 1", y.add(9), 5);
    }

    /** Entries 1 to 3 have all their answers, but LAC waits for entry 0. */
    private static Face answeredButEntryZero() {
        Face x = new Real(3, 2, 2);
        for (int e = 0; e < 4; e++) {
            x.add(40 + e);
        }
        x.lose(0);
        x.lose(0);
        Check.deliverAll(x);
        Check.dueWriter(x, 0, 4, -1);
        return x;
    }

    private static void fourAnsweredButNotInOrder() {
        Refusal.due("add with four above LAC -1",
                Edges02AddTest::answeredButEntryZero, x -> x.add(9), BOUNDS);
    }
}
