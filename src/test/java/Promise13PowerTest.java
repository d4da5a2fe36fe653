public final class Promise13PowerTest {
    public static void main(String[] args) {
        Face x = Check.counted(3, 2, 2, 5, 6);
        Check.due("power(0, true) when UP", x.power(0, true), false);
        Check.due("power(3, false)", x.power(3, false), false);
        Check.due("power(3, true)", x.power(3, true), false);
        for (int s : Check.FAR_OUT) {
            Check.due("power(" + s + ", false)", x.power(s, false), false);
            Check.due("power(" + s + ", true)", x.power(s, true), false);
        }
        x.recover(1);
        Check.deliverFirst(x, Check.FENCE, Check.FENCE);
        Check.dueStore(x, 1, 1, 1, 0, 2);
        Check.due("power(1, false)", x.power(1, false), true);
        Check.dueStore(x, 1, 0, 1, 0, 2);
        Check.due("has(1, 1) when down", x.has(1, 1), true);
        Check.due("power(1, false) when down", x.power(1, false), false);
        Check.dueStore(x, 0, 1, 1, -1, 1);
        Check.due("flight()", x.flight(), 3);
        Check.due("power(1, true)", x.power(1, true), true);
        Check.dueStore(x, 1, 1, 1, 0, 2);
        Check.due("power(1, true) when UP", x.power(1, true), false);
        Check.end();
    }
}
