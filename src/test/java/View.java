/** All that can be seen of an object, as a text; some 330 calls at most. */
final class View {
    private View() {}

    static String of(Face x) {
        StringBuilder text = new StringBuilder();
        int flight = x.flight();
        for (int i = 0; i < flight; i++) {
            row(text, "message " + i, 7, i, x::message);
        }
        for (int s = 0; s < 5; s++) {
            row(text, "store " + s, 4, s, x::store);
            int store = s;
            row(text, "has " + s, 20, 0, (zero, e) -> x.has(store, e) ? 1 : 0);
        }
        row(text, "writer", 3, 0, (zero, w) -> x.writer(w));
        row(text, "answers", 20, 0, (zero, e) -> x.answers(e));
        row(text, "recoverer 1", 5, 1, x::recoverer);
        row(text, "recoverer 2", 5, 2, x::recoverer);
        row(text, "ledger", 3, 0, (zero, w) -> x.ledger(w));
        text.append("read");
        for (int e = 0; e < 20; e++) {
            text.append(' ').append(readAnswer(x, e));
        }
        return text.toString();
    }

    private interface Question {
        int ask(int a, int b);
    }

    private static void row(StringBuilder text, String name, int count, int a, Question question) {
        text.append(name).append(':');
        for (int b = 0; b < count; b++) {
            text.append(' ').append(question.ask(a, b));
        }
        text.append('\n');
    }

    private static String readAnswer(Face x, int e) {
        try {
            return "" + x.read(e);
        } catch (RuntimeException thrown) {
            return thrown.getClass().getSimpleName();
        }
    }
}
