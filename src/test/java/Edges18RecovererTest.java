public final class Edges18RecovererTest {
    private static final int NONE = FencedLedger.NONE;

    public static void main(String[] args) {
        Check.edge("w = 0: its state", Edges18RecovererTest::everyState);
        Check.edge("1: its TERM", Edges18RecovererTest::termStays);
        String entry = "2: E (0 at first, and as it was while FENCING)";
        Check.edge(entry, Edges18RecovererTest::entryAtFirst);
        Check.edge(entry, Edges18RecovererTest::entryWhileFencingFirst);
        Check.edge(entry, Edges18RecovererTest::entryWhileFencingAgain);
        Check.edge(entry, Edges18RecovererTest::lastEntry);
        Check.edge("3: how many stores have ANSWERED", Edges18RecovererTest::nobodyAtFirst);
        Check.edge("3: how many stores have ANSWERED", Edges18RecovererTest::oneFewerThanAll);
        Check.edge("4: its highest MARK (-1 at first)", Edges18RecovererTest::highestMarkAtFirst);
        Check.edge("4: its highest MARK (-1 at first)", Edges18RecovererTest::largestHighestMark);
        Check.edge("NONE if there is none such", Edges18RecovererTest::tooSmall);
        Check.edge("NONE if there is none such", Edges18RecovererTest::tooLarge);
        Check.edge("or for any other w", Edges18RecovererTest::wTooSmall);
        Check.edge("or for any other w", Edges18RecovererTest::wTooLarge);
        Check.end();
    }

    private static void everyState() {
        Check.due("IDLE", Scene.writing().recoverer(1, 0), 0);
        Check.due("FENCING", Scene.fencing().recoverer(1, 0), 1);
        Check.due("READING", Scene.reading().recoverer(1, 0), 2);
        Check.due("WRITING BACK", Scene.writingBack().recoverer(1, 0), 3);
        Check.due("DONE", Scene.recovered().recoverer(1, 0), 4);
        Check.due("IDLE again", Scene.abandoned().recoverer(1, 0), 0);
    }

    private static void termStays() {
        Face x = Scene.abandoned();
        Check.due("recoverer(1, 1)", x.recoverer(1, 1), 1);
        x.recover(2);
        Check.due("recoverer(1, 1)", x.recoverer(1, 1), 1);
        Check.due("recoverer(2, 1)", x.recoverer(2, 1), 2);
    }

    private static void entryAtFirst() {
        Face x = new Real(3, 2, 1);
        Check.due("recoverer(1, 2)", x.recoverer(1, 2), 0);
        Check.due("recoverer(2, 2)", x.recoverer(2, 2), 0);
    }

    private static void entryWhileFencingFirst() {
        Check.due("recoverer(1, 2)", Scene.fencing().recoverer(1, 2), 0);
    }

    private static void entryWhileFencingAgain() {
        Face x = Scene.abandoned();
        x.recover(1);
        Check.due("recoverer(1, 2)", x.recoverer(1, 2), 2);
    }

    private static void lastEntry() {
        Face x = Scene.twentyEntries();
        x.recover(1);
        Check.deliverFirst(x, 1, 1, 1, 5, 5, 5);
        Check.due("recoverer(1, 2)", x.recoverer(1, 2), 19);
        Check.deliverAll(x);
        Check.due("recoverer(1, 0)", x.recoverer(1, 0), 4);
        Check.due("recoverer(1, 2)", x.recoverer(1, 2), 19);
    }

    private static void nobodyAtFirst() {
        Face x = new Real(3, 2, 1);
        Check.due("recoverer(1, 3)", x.recoverer(1, 3), 0);
        x.recover(1);
        Check.due("recoverer(1, 3)", x.recoverer(1, 3), 0);
    }

    private static void oneFewerThanAll() {
        Face x = new Real(5, 2, 1);
        x.recover(1);
        Check.deliverFirst(x, 1, 1, 1, 1, 1, 5, 5, 5, 5);
        Check.due("recoverer(1, 3)", x.recoverer(1, 3), 4);
    }

    private static void highestMarkAtFirst() {
        Face x = new Real(3, 2, 1);
        Check.due("recoverer(1, 4)", x.recoverer(1, 4), -1);
        Check.due("recoverer(2, 4)", x.recoverer(2, 4), -1);
    }

    private static void largestHighestMark() {
        Face x = Check.counted(3, 2, 1, new int[19]);
        x.add(5);
        Check.passWithAnswer(x, Check.ADD, 1, Check.ADDED);
        x.resend(19);
        Check.deliverAll(x);
        x.recover(1);
        Check.deliverAll(x);
        Check.due("recoverer(1, 4)", x.recoverer(1, 4), 19);
    }

    private static void tooSmall() {
        for (int r : new int[] {Integer.MIN_VALUE, -1, 0}) {
            for (int w = 0; w < 5; w++) {
                int which = w;
                String what = "recoverer(" + r + ", " + w + ")";
                Refusal.due(what, Scene::writingBack, x -> x.recoverer(r, which), NONE);
            }
        }
    }

    private static void tooLarge() {
        for (int r : new int[] {3, 4, Integer.MAX_VALUE}) {
            for (int w = 0; w < 5; w++) {
                int which = w;
                String what = "recoverer(" + r + ", " + w + ")";
                Refusal.due(what, Scene::writingBack, x -> x.recoverer(r, which), NONE);
            }
        }
    }

    private static void wTooSmall() {
        for (int w : new int[] {Integer.MIN_VALUE, -1}) {
            Refusal.due("recoverer(1, " + w + ")", Scene::reading, x -> x.recoverer(1, w), NONE);
        }
    }

    private static void wTooLarge() {
        for (int w : new int[] {5, 6, Integer.MAX_VALUE}) {
            Refusal.due("recoverer(2, " + w + ")", Scene::reading, x -> x.recoverer(2, w), NONE);
        }
    }
}
