public final class Edges14StoreTest {
    private static final int NONE = FencedLedger.NONE;

    public static void main(String[] args) {
        Check.edge("w = 0: 1 if it is UP, else 0", Edges14StoreTest::upOrNot);
        Check.edge("1: 1 if it is FENCED, else 0", Edges14StoreTest::fencedOrNot);
        Check.edge("2: its MARK", Edges14StoreTest::smallestAndLargestMark);
        Check.edge("3: how many entries it has", Edges14StoreTest::none);
        Check.edge("3: how many entries it has", Edges14StoreTest::allTwenty);
        Check.edge("NONE if there is no such store", Edges14StoreTest::storeTooSmall);
        Check.edge("NONE if there is no such store", Edges14StoreTest::storeTooLarge);
        Check.edge("or w", Edges14StoreTest::wTooSmall);
        Check.edge("or w", Edges14StoreTest::wTooLarge);
        Check.end();
    }

    private static void upOrNot() {
        Face x = new Real(3, 2, 1);
        Check.due("store(2, 0)", x.store(2, 0), 1);
        x.power(2, false);
        Check.due("store(2, 0)", x.store(2, 0), 0);
    }

    private static void fencedOrNot() {
        Face x = new Real(3, 2, 1);
        x.recover(1);
        Check.due("store(2, 1)", x.store(2, 1), 0);
        Check.pass(x, Check.FENCE, 2);
        Check.due("store(2, 1)", x.store(2, 1), 1);
        Check.due("store(1, 1)", x.store(1, 1), 0);
    }

    private static void smallestAndLargestMark() {
        Face x = new Real(3, 2, 1);
        Check.due("store(1, 2)", x.store(1, 2), -1);
        Face y = Check.counted(3, 2, 1, new int[19]);
        y.add(5);
        Check.passWithAnswer(y, Check.ADD, 2, Check.ADDED);
        y.resend(19);
        Check.loseAllBut(y, Check.ADD);
        Check.deliverFirst(y, Check.ADD);
        Check.due("store(1, 2)", y.store(1, 2), 18);
        Check.deliverFirst(y, Check.ADD);
        Check.due("store(1, 2)", y.store(1, 2), 19);
    }

    private static void none() {
        Face x = new Real(3, 2, 1);
        x.add(5);
        Check.deliverAll(x);
        Check.due("store(0, 3)", x.store(0, 3), 1);
        Check.due("store(2, 3)", x.store(2, 3), 0);
    }

    private static void allTwenty() {
        Face x = Check.counted(3, 3, 1, new int[20]);
        for (int s = 0; s < 3; s++) {
            Check.due("store(" + s + ", 3)", x.store(s, 3), 20);
        }
    }

    private static void storeTooSmall() {
        for (int s : new int[] {Integer.MIN_VALUE, -1}) {
            for (int w = 0; w < 4; w++) {
                int which = w;
                String what = "store(" + s + ", " + w + ")";
                Refusal.due(what, Scene::reading, x -> x.store(s, which), NONE);
            }
        }
    }

    /** N is 4. */
    private static void storeTooLarge() {
        for (int s : new int[] {4, 5, Integer.MAX_VALUE}) {
            for (int w = 0; w < 4; w++) {
                int which = w;
                String what = "store(" + s + ", " + w + ")";
                Refusal.due(what, Scene::reading, x -> x.store(s, which), NONE);
            }
        }
    }

    private static void wTooSmall() {
        for (int w : new int[] {Integer.MIN_VALUE, -1}) {
            Refusal.due("store(0, " + w + ")", Scene::reading, x -> x.store(0, w), NONE);
        }
    }

    private static void wTooLarge() {
        for (int w : new int[] {4, 5, Integer.MAX_VALUE}) {
            Refusal.due("store(0, " + w + ")", Scene::reading, x -> x.store(0, w), NONE);
        }
    }
}
