public final class Promise10LoseTest {
    public static void main(String[] args) {
        Face x = new Real(4, 4, 2);
        Check.due("lose(0) of none", x.lose(0), false);
        x.add(6);
        Check.due("lose(4) of four", x.lose(4), false);
        for (int i : Check.FAR_OUT) {
            Check.due("lose(" + i + ")", x.lose(i), false);
        }
        Check.due("flight()", x.flight(), 4);
        Check.due("lose(1)", x.lose(1), true);
        Check.due("flight()", x.flight(), 3);
        Check.dueMessage(x, 0, Check.ADD, 0, 0, 0, 6, 0, -1);
        Check.dueMessage(x, 1, Check.ADD, 0, 2, 0, 6, 0, -1);
        Check.dueMessage(x, 2, Check.ADD, 0, 3, 0, 6, 0, -1);
        Check.due("lose(2)", x.lose(2), true);
        Check.due("lose(0)", x.lose(0), true);
        Check.dueMessage(x, 0, Check.ADD, 0, 2, 0, 6, 0, -1);
        Check.due("lose(0)", x.lose(0), true);
        Check.due("lose(0) of none", x.lose(0), false);
        for (int s = 0; s < 4; s++) {
            Check.dueStore(x, s, 1, 0, -1, 0);
        }
        Check.dueWriter(x, 0, 1, -1);
        Check.end();
    }
}
