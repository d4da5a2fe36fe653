public final class Edges15HasTest {
    public static void main(String[] args) {
        String whether = "Whether store s has entry e";
        Check.edge(whether, Edges15HasTest::outsideOfItsSet);
        Check.edge(whether, Edges15HasTest::firstAndLastEntry);
        Check.edge(whether, Edges15HasTest::storeThatIsDown);
        Check.edge(whether, Edges15HasTest::addOnItsWay);
        String none = "false if there is none such";
        Check.edge(none, Edges15HasTest::storeTooSmall);
        Check.edge(none, Edges15HasTest::storeTooLarge);
        Check.edge(none, Edges15HasTest::entryTooSmall);
        Check.edge(none, Edges15HasTest::entryTooLarge);
        Check.edge(none, Edges15HasTest::entryNotAdded);
        Check.end();
    }

    /** N 3, W 2: entry 2 is on 2 and 0. */
    private static void outsideOfItsSet() {
        Face x = Check.counted(3, 2, 2, 5, 6, 7);
        Check.due("has(2, 2)", x.has(2, 2), true);
        Check.due("has(0, 2)", x.has(0, 2), true);
        Check.due("has(1, 2)", x.has(1, 2), false);
    }

    private static void firstAndLastEntry() {
        Face x = Scene.twentyEntries();
        Check.due("has(0, 0)", x.has(0, 0), true);
        Check.due("has(1, 19)", x.has(1, 19), true);
        Check.due("has(2, 19)", x.has(2, 19), true);
        Check.due("has(0, 19)", x.has(0, 19), false);
    }

    private static void storeThatIsDown() {
        Face x = Check.counted(3, 2, 2, 5);
        x.power(0, false);
        Check.due("has(0, 0)", x.has(0, 0), true);
        Check.due("has(0, 1)", x.has(0, 1), false);
    }

    private static void addOnItsWay() {
        Face x = new Real(3, 2, 2);
        x.add(5);
        Check.due("has(0, 0)", x.has(0, 0), false);
        Check.deliverFirst(x, Check.ADD);
        Check.due("has(0, 0)", x.has(0, 0), true);
        Check.due("has(1, 0)", x.has(1, 0), false);
    }

    private static void storeTooSmall() {
        for (int s : new int[] {Integer.MIN_VALUE, -1}) {
            Refusal.due("has(" + s + ", 0)", Scene::twentyEntries, x -> x.has(s, 0), false);
        }
    }

    private static void storeTooLarge() {
        for (int s : new int[] {3, 4, 5, Integer.MAX_VALUE}) {
            Refusal.due("has(" + s + ", 0)", Scene::twentyEntries, x -> x.has(s, 0), false);
        }
    }

    private static void entryTooSmall() {
        for (int e : new int[] {Integer.MIN_VALUE, -1}) {
            Refusal.due("has(0, " + e + ")", Scene::twentyEntries, x -> x.has(0, e), false);
        }
    }

    private static void entryTooLarge() {
        for (int e : new int[] {20, 21, Integer.MAX_VALUE}) {
            Refusal.due("has(1, " + e + ")", Scene::twentyEntries, x -> x.has(1, e), false);
        }
    }

    private static void entryNotAdded() {
        Refusal.due("has(3, 3) of three", Scene::writing, x -> x.has(3, 3), false);
        Refusal.due("has(3, 19) of three", Scene::writing, x -> x.has(3, 19), false);
    }
}
