public final class Edges11FlightTest {
    public static void main(String[] args) {
        String many = "How many messages are in the channel.";
        Check.edge(many, Edges11FlightTest::none);
        Check.edge(many, Edges11FlightTest::one);
        Check.edge(many, Edges11FlightTest::nineteenAndTwenty);
        Check.edge(many, Edges11FlightTest::noneAgain);
        Check.end();
    }

    private static void none() {
        Check.due("flight()", new Real(3, 2, 1).flight(), 0);
    }

    private static void one() {
        Face x = new Real(3, 2, 1);
        x.add(5);
        x.lose(0);
        Check.due("flight()", x.flight(), 1);
        Check.deliverFirst(x, Check.ADD);
        Check.due("flight(), the answer", x.flight(), 1);
    }

    private static void nineteenAndTwenty() {
        Face x = Scene.full();
        Check.due("flight()", x.flight(), 20);
        x.lose(3);
        Check.due("flight()", x.flight(), 19);
        x.recover(1);
        Check.due("flight()", x.flight(), 20);
    }

    private static void noneAgain() {
        Face x = Scene.full();
        for (int left = 19; left >= 0; left--) {
            x.lose(left / 2);
            Check.due("flight()", x.flight(), left);
        }
    }
}
