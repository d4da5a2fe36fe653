public final class Promise17AnswersTest {
    public static void main(String[] args) {
        Face x = new Real(4, 3, 1);
        Check.due("answers(0) of none", x.answers(0), FencedLedger.NONE);
        x.add(5);
        x.add(6);
        Check.due("answers(0)", x.answers(0), 0);
        Check.due("answers(2) of two", x.answers(2), FencedLedger.NONE);
        for (int e : Check.FAR_OUT) {
            Check.due("answers(" + e + ")", x.answers(e), FencedLedger.NONE);
        }
        x.resend(0);
        for (int k = 0; k < 9; k++) {
            Check.deliverFirst(x, Check.ADD);
        }
        Check.due("answers(0) not yet heard", x.answers(0), 0);
        Check.deliverFirst(x, Check.ADDED);
        Check.due("answers(0)", x.answers(0), 1);
        Check.due("deliver(5), of the same store", x.deliver(5), Check.ADDED);
        Check.due("answers(0) of one store twice", x.answers(0), 1);
        Check.deliverFirst(x, Check.ADDED, Check.ADDED);
        Check.due("answers(0) past LAC", x.answers(0), 3);
        Check.deliverFirst(x, Check.ADDED);
        Check.due("answers(1)", x.answers(1), 1);
        x.leave();
        Check.deliverFirst(x, Check.ADDED);
        Check.due("answers(1) heard when GONE", x.answers(1), 1);

        Face back = new Real(3, 3, 2);
        back.add(5);
        Check.deliverFirst(back, Check.ADD);
        Check.loseAll(back);
        back.recover(1);
        Check.deliverAll(back);
        Check.dueLedger(back, 2, 2, 0);
        Check.due("answers(0) when a recoverer wrote it back", back.answers(0), 0);
        Check.end();
    }
}
