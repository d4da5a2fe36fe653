public final class Edges19LedgerTest {
    private static final int NONE = FencedLedger.NONE;

    public static void main(String[] args) {
        Check.edge("w = 0: its STATE", Edges19LedgerTest::everyState);
        Check.edge("1: its VERSION", Edges19LedgerTest::versionOfManyRecoveries);
        Check.edge("1: its VERSION", Edges19LedgerTest::versionBehindRefusals);
        String last = "2: its LAST (NONE if it is not CLOSED)";
        Check.edge(last, Edges19LedgerTest::lastWhenOpen);
        Check.edge(last, Edges19LedgerTest::lastWhenRecovering);
        Check.edge(last, Edges19LedgerTest::lastOfNone);
        Check.edge(last, Edges19LedgerTest::lastOfOne);
        Check.edge(last, Edges19LedgerTest::lastOfTwenty);
        Check.edge("NONE for any other w", Edges19LedgerTest::tooSmall);
        Check.edge("NONE for any other w", Edges19LedgerTest::tooLarge);
        Check.end();
    }

    private static void everyState() {
        Check.due("OPEN", Scene.writing().ledger(0), 0);
        Check.due("RECOVERING", Scene.fencing().ledger(0), 1);
        Check.due("RECOVERING, abandoned", Scene.abandoned().ledger(0), 1);
        Check.due("CLOSED by the writer", Scene.done().ledger(0), 2);
        Check.due("CLOSED by a recoverer", Scene.recovered().ledger(0), 2);
    }

    private static void versionOfManyRecoveries() {
        Face x = new Real(3, 2, 1);
        for (int k = 1; k <= 100; k++) {
            x.recover(1 + k % 2);
            Check.due("ledger(1)", x.ledger(1), k);
            x.abandon(1 + k % 2);
        }
        Check.due("ledger(1)", x.ledger(1), 100);
    }

    private static void versionBehindRefusals() {
        Face x = Scene.recovered();
        x.recover(1);
        x.recover(2);
        x.recover(3);
        x.close();
        Check.due("ledger(1)", x.ledger(1), 2);
    }

    private static void lastWhenOpen() {
        Check.due("ledger(2)", Scene.writing().ledger(2), NONE);
    }

    private static void lastWhenRecovering() {
        Check.due("ledger(2)", Scene.writingBack().ledger(2), NONE);
    }

    private static void lastOfNone() {
        Face x = new Real(3, 2, 1);
        x.close();
        Check.dueLedger(x, 2, 1, -1);
    }

    private static void lastOfOne() {
        Face x = Check.counted(3, 2, 1, 5);
        x.close();
        Check.dueLedger(x, 2, 1, 0);
    }

    private static void lastOfTwenty() {
        Face x = Scene.twentyEntries();
        x.recover(1);
        Check.deliverAll(x);
        Check.dueLedger(x, 2, 2, 19);
    }

    private static void tooSmall() {
        for (int w : new int[] {Integer.MIN_VALUE, -1}) {
            Refusal.due("ledger(" + w + ")", Scene::recovered, x -> x.ledger(w), NONE);
        }
    }

    private static void tooLarge() {
        for (int w : new int[] {3, 4, Integer.MAX_VALUE}) {
            Refusal.due("ledger(" + w + ")", Scene::recovered, x -> x.ledger(w), NONE);
        }
    }
}
