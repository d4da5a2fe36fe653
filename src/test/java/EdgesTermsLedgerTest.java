/** The document's 'Terms': the ledger, and how often an object is used. */
public final class EdgesTermsLedgerTest {
    public static void main(String[] args) {
        Check.edge("OPEN (0, at first)", EdgesTermsLedgerTest::openAtFirst);
        Check.edge("a VERSION, at first 0", EdgesTermsLedgerTest::versionAtFirst);
        String last = "when CLOSED a LAST entry (-1 for none)";
        Check.edge(last, EdgesTermsLedgerTest::writerClosesWithNone);
        Check.edge(last, EdgesTermsLedgerTest::writerClosesWithNoneCounted);
        Check.edge(last, EdgesTermsLedgerTest::recovererClosesWithNone);
        Check.edge(last, EdgesTermsLedgerTest::lastOfTwenty);
        Check.edge("It is never down.", EdgesTermsLedgerTest::closesWithAllStoresDown);
        Check.edge("It is never down.", EdgesTermsLedgerTest::recoversWithAllStoresDown);
        String calls = "An object is used for at most 512 calls after it has been made";
        Check.edge(calls, EdgesTermsLedgerTest::lastOf512CallsTells);
        Check.edge(calls, EdgesTermsLedgerTest::lastOf512CallsChanges);
        Check.edge("NONE = -1", EdgesTermsLedgerTest::none);
        Check.end();
    }

    private static void openAtFirst() {
        Face x = new Real(3, 2, 1);
        Check.due("ledger(0)", x.ledger(0), 0);
        Check.dueThrow("read(0)", IllegalStateException.class, () -> x.read(0));
        Check.due("close()", x.close(), true);
    }

    private static void versionAtFirst() {
        Face x = new Real(3, 2, 1);
        Check.due("ledger(1)", x.ledger(1), 0);
        x.recover(1);
        Check.due("the first TERM", x.recoverer(1, 1), 1);
    }

    private static void writerClosesWithNone() {
        Face x = new Real(3, 2, 1);
        x.close();
        Check.dueLedger(x, 2, 1, -1);
        Check.dueThrow("read(0)", IndexOutOfBoundsException.class, () -> x.read(0));
    }

    private static void writerClosesWithNoneCounted() {
        Face x = new Real(3, 2, 2);
        x.add(5);
        Check.deliverFirst(x, Check.ADD, Check.ADD, Check.ADDED);
        x.close();
        Check.dueLedger(x, 2, 1, -1);
        Check.dueThrow("read(0)", IndexOutOfBoundsException.class, () -> x.read(0));
    }

    private static void recovererClosesWithNone() {
        Face x = new Real(4, 3, 2);
        x.recover(2);
        Check.deliverAll(x);
        Check.dueLedger(x, 2, 2, -1);
        Check.dueThrow("read(0)", IndexOutOfBoundsException.class, () -> x.read(0));
    }

    private static void lastOfTwenty() {
        Face x = Scene.twentyEntries();
        x.close();
        Check.dueLedger(x, 2, 1, 19);
    }

    private static Face allDown() {
        Face x = Check.counted(3, 2, 2, 5);
        for (int s = 0; s < 3; s++) {
            x.power(s, false);
        }
        return x;
    }

    private static void closesWithAllStoresDown() {
        Face x = allDown();
        Check.due("close()", x.close(), true);
        Check.dueLedger(x, 2, 1, 0);
    }

    private static void recoversWithAllStoresDown() {
        Face x = allDown();
        Check.due("recover(1)", x.recover(1), true);
        Check.dueLedger(x, 1, 1, -1);
    }

    private static void lastOf512CallsTells() {
        Face x = new Real(3, 2, 1);
        for (int k = 0; k < 255; k++) {
            x.recover(1);
            x.abandon(1);
        }
        x.lose(0);
        Check.due("ledger(1), call 512", x.ledger(1), 255);
    }

    private static void lastOf512CallsChanges() {
        Face x = new Real(5, 5, 5);
        x.recover(2);
        for (int k = 0; k < 255; k++) {
            x.power(4, false);
            x.power(4, true);
        }
        Check.due("retry(2), call 512", x.retry(2), 5);
    }

    private static void none() {
        Check.due("NONE", FencedLedger.NONE, -1);
        Check.due("deliver(0) of none", new Real(3, 2, 1).deliver(0), -1);
    }
}
