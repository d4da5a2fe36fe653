public final class Edges17AnswersTest {
    private static final int NONE = FencedLedger.NONE;

    public static void main(String[] args) {
        String many = "How many stores have answered ADDED to entry e";
        Check.edge(many, Edges17AnswersTest::nobody);
        Check.edge(many, Edges17AnswersTest::all);
        Check.edge(many, Edges17AnswersTest::oneStoreTwice);
        Check.edge(many, Edges17AnswersTest::toTheRecoverer);
        Check.edge("while the writer was WRITING", Edges17AnswersTest::whenStopped);
        Check.edge("while the writer was WRITING", Edges17AnswersTest::whenDone);
        Check.edge("while the writer was WRITING", Edges17AnswersTest::whenGone);
        Check.edge("while the writer was WRITING", Edges17AnswersTest::stayWhenGone);
        Check.edge("NONE if e was not added", Edges17AnswersTest::tooSmall);
        Check.edge("NONE if e was not added", Edges17AnswersTest::tooLarge);
        Check.edge("NONE if e was not added", Edges17AnswersTest::noneAdded);
        Check.edge("NONE if e was not added", Edges17AnswersTest::behindTheLastOfTwenty);
        Check.end();
    }

    private static void nobody() {
        Face x = new Real(3, 2, 1);
        x.add(5);
        Check.deliverFirst(x, Check.ADD, Check.ADD);
        Check.due("answers(0)", x.answers(0), 0);
    }

    private static void all() {
        Face x = Check.counted(5, 5, 1, 5);
        Check.due("answers(0)", x.answers(0), 5);
        Check.due("answers(19)", Scene.twentyEntries().answers(19), 2);
    }

    private static void oneStoreTwice() {
        Face x = new Real(3, 2, 1);
        x.add(5);
        x.resend(0);
        Check.passWithAnswer(x, Check.ADD, 1, Check.ADDED);
        Check.passWithAnswer(x, Check.ADD, 1, Check.ADDED);
        Check.due("answers(0)", x.answers(0), 1);
    }

    /** What a recoverer writes back is not answered to the writer. */
    private static void toTheRecoverer() {
        Face x = Scene.recovered();
        Check.due("has(0, 2)", x.has(0, 2), true);
        Check.due("answers(2)", x.answers(2), 0);
    }

    /** ADD of entry 2 to stores 2 and 3, of which 3 is not FENCED, is on its way. */
    private static void whenStopped() {
        Face x = Scene.stopped();
        Check.passWithAnswer(x, Check.ADD, 3, Check.ADDED);
        Check.due("has(3, 2)", x.has(3, 2), true);
        Check.due("answers(2)", x.answers(2), 0);
    }

    private static void whenDone() {
        Face x = Scene.done();
        Check.deliverAll(x);
        Check.due("has(3, 2)", x.has(3, 2), true);
        Check.due("answers(2)", x.answers(2), 0);
    }

    private static void whenGone() {
        Face x = Scene.gone();
        Check.deliverAll(x);
        Check.due("has(3, 2)", x.has(3, 2), true);
        Check.due("answers(2)", x.answers(2), 0);
    }

    private static void stayWhenGone() {
        Check.due("answers(1)", Scene.gone().answers(1), 3);
        Check.due("answers(1)", Scene.done().answers(1), 3);
        Check.due("answers(1)", Scene.stopped().answers(1), 3);
    }

    private static void tooSmall() {
        for (int e : new int[] {Integer.MIN_VALUE, -1}) {
            Refusal.due("answers(" + e + ")", Scene::writing, x -> x.answers(e), NONE);
        }
    }

    private static void tooLarge() {
        for (int e : new int[] {3, 19, 20, Integer.MAX_VALUE}) {
            Refusal.due("answers(" + e + ") of three", Scene::writing, x -> x.answers(e), NONE);
        }
    }

    private static void noneAdded() {
        Refusal.due("answers(0) of none", Scene::empty, x -> x.answers(0), NONE);
    }

    private static void behindTheLastOfTwenty() {
        Refusal.due("answers(20)", Scene::twentyEntries, x -> x.answers(20), NONE);
    }
}
