public final class Edges13PowerTest {
    public static void main(String[] args) {
        String power = "Store s is not UP any more, or UP again: true";
        Check.edge(power, Edges13PowerTest::firstAndLastStore);
        Check.edge(power, Edges13PowerTest::allDown);
        Check.edge("false if it is so already", Edges13PowerTest::upAtFirst);
        Check.edge("false if it is so already", Edges13PowerTest::downAlready);
        Check.edge("false if it is so already", Edges13PowerTest::upAgainAlready);
        Check.edge("or there is none such", Edges13PowerTest::tooSmall);
        Check.edge("or there is none such", Edges13PowerTest::tooLarge);
        Check.end();
    }

    private static void firstAndLastStore() {
        for (int n = 3; n <= 5; n++) {
            for (int s : new int[] {0, n - 1}) {
                Face x = new Real(n, 2, 1);
                Check.due("power(" + s + ", false)", x.power(s, false), true);
                Check.due("store(" + s + ", 0)", x.store(s, 0), 0);
                Check.due("store(1, 0)", x.store(1, 0), 1);
                Check.due("power(" + s + ", true)", x.power(s, true), true);
                Check.due("store(" + s + ", 0)", x.store(s, 0), 1);
            }
        }
    }

    private static void allDown() {
        Face x = new Real(5, 2, 1);
        for (int s = 0; s < 5; s++) {
            Check.due("power(" + s + ", false)", x.power(s, false), true);
        }
        for (int s = 0; s < 5; s++) {
            Check.due("store(" + s + ", 0)", x.store(s, 0), 0);
        }
    }

    private static Face storeTwoDown() {
        Face x = Scene.writingBack();
        x.power(2, false);
        return x;
    }

    private static Face storeTwoUpAgain() {
        Face x = storeTwoDown();
        x.power(2, true);
        return x;
    }

    private static void upAtFirst() {
        Refusal.due("power(2, true) when UP", Scene::writingBack, x -> x.power(2, true), false);
    }

    private static void downAlready() {
        Refusal.due("power(2, false) when down",
                Edges13PowerTest::storeTwoDown, x -> x.power(2, false), false);
    }

    private static void upAgainAlready() {
        Refusal.due("power(2, true) when UP again",
                Edges13PowerTest::storeTwoUpAgain, x -> x.power(2, true), false);
    }

    private static void tooSmall() {
        for (int s : new int[] {Integer.MIN_VALUE, -1}) {
            Refusal.due("power(" + s + ", false)", Scene::reading, x -> x.power(s, false), false);
            Refusal.due("power(" + s + ", true)", Scene::reading, x -> x.power(s, true), false);
        }
    }

    /** N is 4. */
    private static void tooLarge() {
        for (int s : new int[] {4, 5, Integer.MAX_VALUE}) {
            Refusal.due("power(" + s + ", false)", Scene::reading, x -> x.power(s, false), false);
            Refusal.due("power(" + s + ", true)", Scene::reading, x -> x.power(s, true), false);
        }
    }
}
