import java.util.List;
import java.util.function.BiFunction;
import java.util.function.Supplier;

/**
 * The document's 'Terms': "A call that answers false or NONE, or throws, changes nothing." Each
 * call of the face has a test of its own, with odd arguments and in many states.
 */
public final class EdgesTermsRefusedTest {
    private static final String NOTHING =
            "A call that answers false or NONE, or throws, changes nothing.";

    private static final List<Supplier<Face>> SCENES = List.of(
            Scene::empty, Scene::writing, Scene::stopped, Scene::done, Scene::gone, Scene::fencing,
            Scene::reading, Scene::writingBack, Scene::recovered, Scene::abandoned, Scene::full,
            Scene::twentyEntries, EdgesTermsRefusedTest::closedAndDown);

    private static final int[] ODD = {
        Integer.MIN_VALUE, -1, 0, 1, 2, 3, 4, 5, 7, 19, 20, Integer.MAX_VALUE
    };

    public static void main(String[] args) {
        test("add", (x, a) -> x.add(a));
        test("resend", (x, a) -> x.resend(a));
        test("close", (x, a) -> x.close());
        test("leave", (x, a) -> x.leave());
        test("recover", (x, a) -> x.recover(a));
        test("retry", (x, a) -> x.retry(a));
        test("abandon", (x, a) -> x.abandon(a));
        test("deliver", (x, a) -> x.deliver(a));
        test("lose", (x, a) -> x.lose(a));
        test("message", (x, a) -> x.message(a, 0));
        test("message 0", (x, a) -> x.message(0, a));
        test("power down", (x, a) -> x.power(a, false));
        test("power up", (x, a) -> x.power(a, true));
        test("store", (x, a) -> x.store(a, 0));
        test("store 0", (x, a) -> x.store(0, a));
        test("has", (x, a) -> x.has(a, 2));
        test("has by store 1", (x, a) -> x.has(1, a));
        test("writer", (x, a) -> x.writer(a));
        test("answers", (x, a) -> x.answers(a));
        test("recoverer", (x, a) -> x.recoverer(a, 0));
        test("recoverer 1", (x, a) -> x.recoverer(1, a));
        test("ledger", (x, a) -> x.ledger(a));
        test("read", (x, a) -> x.read(a));
        Check.end();
    }

    private static Face closedAndDown() {
        Face x = Scene.recovered();
        for (int s = 0; s < 4; s++) {
            x.power(s, false);
        }
        return x;
    }

    private static void test(String name, BiFunction<Face, Integer, Object> call) {
        Check.edge(NOTHING, () -> everywhere(name, call));
    }

    private static void everywhere(String name, BiFunction<Face, Integer, Object> call) {
        int refusals = 0;
        for (int k = 0; k < SCENES.size(); k++) {
            for (int a : ODD) {
                String answer = Refusal.answer(SCENES.get(k).get(), x -> call.apply(x, a));
                if (Call.isRefusal(answer)) {
                    refusals++;
                    String what = name + " with " + a + " in scene " + k;
                    Refusal.due(what, SCENES.get(k), x -> call.apply(x, a), answer);
                }
            }
        }
        Check.due("that " + name + " was refused", refusals > 0, true);
    }
}
