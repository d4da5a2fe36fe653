/** The program behind Face; it counts the calls, for only the first 512 are promised anything. */
final class Real implements Face {
    private final FencedLedger x;
    private int calls = 0;

    Real(int n, int w, int q) {
        x = new FencedLedger(n, w, q);
    }

    private FencedLedger used() {
        calls++;
        if (calls > 512) {
            throw new AssertionError("a test made more than 512 calls on one object");
        }
        return x;
    }

    @Override
    public int add(int value) {
        return used().add(value);
    }

    @Override
    public int resend(int e) {
        return used().resend(e);
    }

    @Override
    public boolean close() {
        return used().close();
    }

    @Override
    public boolean leave() {
        return used().leave();
    }

    @Override
    public boolean recover(int r) {
        return used().recover(r);
    }

    @Override
    public int retry(int r) {
        return used().retry(r);
    }

    @Override
    public boolean abandon(int r) {
        return used().abandon(r);
    }

    @Override
    public int deliver(int i) {
        return used().deliver(i);
    }

    @Override
    public boolean lose(int i) {
        return used().lose(i);
    }

    @Override
    public int flight() {
        return used().flight();
    }

    @Override
    public int message(int i, int w) {
        return used().message(i, w);
    }

    @Override
    public boolean power(int s, boolean up) {
        return used().power(s, up);
    }

    @Override
    public int store(int s, int w) {
        return used().store(s, w);
    }

    @Override
    public boolean has(int s, int e) {
        return used().has(s, e);
    }

    @Override
    public int writer(int w) {
        return used().writer(w);
    }

    @Override
    public int answers(int e) {
        return used().answers(e);
    }

    @Override
    public int recoverer(int r, int w) {
        return used().recoverer(r, w);
    }

    @Override
    public int ledger(int w) {
        return used().ledger(w);
    }

    @Override
    public int read(int e) {
        return used().read(e);
    }
}
