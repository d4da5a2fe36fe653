public final class Promise11FlightTest {
    public static void main(String[] args) {
        Face x = new Real(5, 4, 2);
        Check.due("flight() at first", x.flight(), 0);
        x.add(1);
        Check.due("flight() after add", x.flight(), 4);
        x.deliver(0);
        Check.due("flight() after an answer", x.flight(), 4);
        x.deliver(3);
        Check.due("flight() after it arrived", x.flight(), 3);
        x.lose(0);
        Check.due("flight() after a loss", x.flight(), 2);
        x.recover(1);
        Check.due("flight() after recover", x.flight(), 7);
        x.retry(1);
        x.retry(1);
        Check.due("flight() after two retries", x.flight(), 17);
        x.retry(1);
        Check.due("flight() when full", x.flight(), 20);
        x.retry(1);
        x.add(2);
        x.recover(2);
        x.resend(0);
        Check.due("flight() when full", x.flight(), 20);
        x.power(3, false);
        x.deliver(1);
        Check.due("flight() after delivery to a store that is down", x.flight(), 19);
        Check.end();
    }
}
