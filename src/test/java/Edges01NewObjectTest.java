public final class Edges01NewObjectTest {
    public static void main(String[] args) {
        String nearest = "the nearest number of their ranges where they are outside of them";
        Check.edge("N, W, Q as given", Edges01NewObjectTest::withinTheirRanges);
        Check.edge(nearest, Edges01NewObjectTest::nTooSmall);
        Check.edge(nearest, Edges01NewObjectTest::nTooLarge);
        Check.edge(nearest, Edges01NewObjectTest::wTooSmall);
        Check.edge(nearest, Edges01NewObjectTest::wTooLarge);
        Check.edge(nearest, Edges01NewObjectTest::qTooSmall);
        Check.edge(nearest, Edges01NewObjectTest::qTooLarge);
        Check.edge(nearest, Edges01NewObjectTest::allFarOut);
        Check.edge("(first N, then W, then Q)", Edges01NewObjectTest::wBehindN);
        Check.edge("(first N, then W, then Q)", Edges01NewObjectTest::qBehindW);
        Check.edge("(first N, then W, then Q)", Edges01NewObjectTest::qBehindWBehindN);
        Check.end();
    }

    private static void withinTheirRanges() {
        for (int n = 3; n <= 5; n++) {
            for (int w = 2; w <= n; w++) {
                for (int q = 1; q <= w; q++) {
                    due(n, w, q, n, w, q);
                }
            }
        }
    }

    private static void nTooSmall() {
        for (int n : new int[] {Integer.MIN_VALUE, -3, 0, 2}) {
            due(n, 2, 1, 3, 2, 1);
        }
    }

    private static void nTooLarge() {
        for (int n : new int[] {6, 7, Integer.MAX_VALUE}) {
            due(n, 2, 1, 5, 2, 1);
        }
    }

    private static void wTooSmall() {
        for (int w : new int[] {Integer.MIN_VALUE, -2, 0, 1}) {
            due(4, w, 1, 4, 2, 1);
        }
    }

    private static void wTooLarge() {
        for (int n = 3; n <= 5; n++) {
            due(n, n + 1, 1, n, n, 1);
            due(n, Integer.MAX_VALUE, 1, n, n, 1);
        }
    }

    private static void qTooSmall() {
        for (int q : new int[] {Integer.MIN_VALUE, -1, 0}) {
            due(4, 3, q, 4, 3, 1);
        }
    }

    private static void qTooLarge() {
        for (int w = 2; w <= 5; w++) {
            due(5, w, w + 1, 5, w, w);
            due(5, w, Integer.MAX_VALUE, 5, w, w);
        }
    }

    private static void allFarOut() {
        int least = Integer.MIN_VALUE;
        int most = Integer.MAX_VALUE;
        due(least, least, least, 3, 2, 1);
        due(most, most, most, 5, 5, 5);
        due(least, most, least, 3, 3, 1);
        due(most, least, most, 5, 2, 2);
    }

    /** W 4 and 5 are in range for N as given, but not for the nearest N. */
    private static void wBehindN() {
        due(2, 4, 1, 3, 3, 1);
        due(-5, 5, 1, 3, 3, 1);
        due(6, 6, 1, 5, 5, 1);
    }

    private static void qBehindW() {
        due(4, 1, 2, 4, 2, 2);
        due(4, 0, 4, 4, 2, 2);
        due(4, 5, 5, 4, 4, 4);
    }

    private static void qBehindWBehindN() {
        due(1, 5, 5, 3, 3, 3);
        due(9, 9, 6, 5, 5, 5);
    }

    private static void due(int n, int w, int q, int wantN, int wantW, int wantQ) {
        Face x = new Real(n, w, q);
        String made = "(" + n + ", " + w + ", " + q + "): ";
        Check.due(made + "store N - 1", x.store(wantN - 1, 0), 1);
        Check.due(made + "store N", x.store(wantN, 0), FencedLedger.NONE);
        x.add(7);
        Check.due(made + "messages to the SET", x.flight(), wantW);
        for (int k = 0; k < wantW; k++) {
            x.deliver(0);
        }
        for (int k = 1; k <= wantW; k++) {
            x.deliver(0);
            Check.due(made + "LAC after " + k + " answers", x.writer(2), k < wantQ ? -1 : 0);
        }
    }
}
