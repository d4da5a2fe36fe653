public final class Promise01NewObjectTest {
    public static void main(String[] args) {
        dueNumbers(3, 2, 1, 3, 2, 1);
        dueNumbers(4, 3, 2, 4, 3, 2);
        dueNumbers(5, 5, 5, 5, 5, 5);
        dueNumbers(5, 2, 2, 5, 2, 2);
        dueNumbers(2, 3, 2, 3, 3, 2);
        dueNumbers(6, 4, 2, 5, 4, 2);
        dueNumbers(4, 1, 1, 4, 2, 1);
        dueNumbers(4, 5, 3, 4, 4, 3);
        dueNumbers(4, 3, 0, 4, 3, 1);
        dueNumbers(4, 3, 4, 4, 3, 3);
        dueNumbers(2, 9, 9, 3, 3, 3);
        dueNumbers(9, 9, 9, 5, 5, 5);
        dueNumbers(3, 0, 3, 3, 2, 2);
        dueNumbers(Integer.MIN_VALUE, Integer.MIN_VALUE, Integer.MIN_VALUE, 3, 2, 1);
        dueNumbers(Integer.MAX_VALUE, Integer.MAX_VALUE, Integer.MAX_VALUE, 5, 5, 5);
        firstState();
        Check.due("NONE", FencedLedger.NONE, -1);
        Check.end();
    }

    private static void dueNumbers(int n, int w, int q, int wantN, int wantW, int wantQ) {
        Face x = new Real(n, w, q);
        String made = "of new FencedLedger(" + n + ", " + w + ", " + q + "): ";
        Check.due(made + "store(N - 1, 0)", x.store(wantN - 1, 0), 1);
        Check.due(made + "store(N, 0)", x.store(wantN, 0), FencedLedger.NONE);
        x.add(7);
        Check.due(made + "messages of an add", x.flight(), wantW);
        for (int k = 0; k < wantW; k++) {
            x.deliver(0);
        }
        for (int k = 1; k <= wantW; k++) {
            x.deliver(0);
            Check.due(made + "LAC after " + k + " answers", x.writer(2), k >= wantQ ? 0 : -1);
        }
    }

    private static void firstState() {
        Face x = new Real(5, 3, 2);
        Check.due("flight()", x.flight(), 0);
        Check.dueWriter(x, 0, 0, -1);
        Check.dueLedger(x, 0, 0, -1);
        for (int s = 0; s < 5; s++) {
            Check.dueStore(x, s, 1, 0, -1, 0);
        }
        Check.dueRecoverer(x, 1, 0, 0, 0, 0, -1);
        Check.dueRecoverer(x, 2, 0, 0, 0, 0, -1);
    }
}
