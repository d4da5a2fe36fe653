public final class Promise15HasTest {
    public static void main(String[] args) {
        Face x = new Real(4, 3, 2);
        Check.due("has(0, 0) at first", x.has(0, 0), false);
        x.add(5);
        x.add(6);
        x.deliver(1);
        Check.due("has(0, 0)", x.has(0, 0), false);
        Check.due("has(1, 0)", x.has(1, 0), true);
        Check.due("has(1, 1)", x.has(1, 1), false);
        Check.deliverAll(x);
        for (int s = 0; s < 4; s++) {
            Check.due("has(" + s + ", 0)", x.has(s, 0), s != 3);
            Check.due("has(" + s + ", 1)", x.has(s, 1), s != 0);
            Check.due("has(" + s + ", 2)", x.has(s, 2), false);
        }
        Check.due("has(4, 0)", x.has(4, 0), false);
        Check.due("has(0, 19)", x.has(0, 19), false);
        Check.due("has(0, 20)", x.has(0, 20), false);
        for (int k : Check.FAR_OUT) {
            Check.due("has(" + k + ", 0)", x.has(k, 0), false);
            Check.due("has(0, " + k + ")", x.has(0, k), false);
        }
        x.power(1, false);
        Check.due("has(1, 0) when down", x.has(1, 0), true);

        Face full = Check.counted(3, 2, 1, new int[20]);
        Check.due("has(1, 19)", full.has(1, 19), true);
        Check.due("has(2, 19)", full.has(2, 19), true);
        Check.due("has(0, 19)", full.has(0, 19), false);
        Check.due("has(2, 20)", full.has(2, 20), false);
        Check.end();
    }
}
