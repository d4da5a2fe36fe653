import java.util.ArrayList;
import java.util.List;
import java.util.Random;

/**
 * Walks of calls, the same ones each time, on the program and on the model of the document: every
 * answer and, at the end, all that can be seen must be the same. A call that is refused must leave
 * all as it was.
 */
public final class RandomWalksTest {
    private static final int WALKS = 8000;
    private static final int MOST_CALLS = 160;

    private static int closedByRecovery = 0;
    private static int stoppedWriters = 0;
    private static int fullLedgers = 0;
    private static int refusals = 0;

    public static void main(String[] args) {
        Random random = new Random(20);
        for (int walk = 0; walk < WALKS; walk++) {
            walk(random, walk);
        }
        Check.due("walks that end CLOSED by a recoverer", closedByRecovery > 200, true);
        Check.due("walks that end with a STOPPED writer", stoppedWriters > 200, true);
        Check.due("walks with 20 entries", fullLedgers > 100, true);
        Check.due("refused calls that were looked at", refusals > 500, true);
        Check.end();
    }

    private static void walk(Random random, int walk) {
        int n = random.nextInt(5) + 2;
        int w = random.nextInt(6) + 1;
        int q = random.nextInt(6);
        int style = walk % Call.STYLES;
        Face real = new Real(n, w, q);
        Face model = new Model(n, w, q);
        String start = "walk " + walk + " on new FencedLedger(" + n + ", " + w + ", " + q + ")";
        List<Call> calls = new ArrayList<>();
        int length = 1 + random.nextInt(MOST_CALLS);
        for (int k = 0; k < length; k++) {
            Call call = Call.any(random, model.flight(), style);
            calls.add(call);
            String want = call.answerOf(model);
            String got = call.answerOf(real);
            if (!got.equals(want)) {
                Check.due(start + ": " + calls + ": the last", got, want);
                return;
            }
        }
        String seen = View.of(real);
        Check.due(start + ": " + calls + ": the state", seen, View.of(model));
        count(model);
        refusedChangesNothing(random, new int[] {n, w, q}, calls, seen);
    }

    private static void count(Face model) {
        closedByRecovery += model.ledger(0) == 2 && model.ledger(1) > 1 ? 1 : 0;
        stoppedWriters += model.writer(0) == 1 ? 1 : 0;
        fullLedgers += model.writer(1) == 20 ? 1 : 0;
    }

    /** A second object is needed, for looking at all takes most of an object's 512 calls. */
    private static void refusedChangesNothing(
            Random random, int[] numbers, List<Call> calls, String seen) {
        Face again = new Real(numbers[0], numbers[1], numbers[2]);
        for (Call call : calls) {
            call.answerOf(again);
        }
        Call last = Call.any(random, 0, Call.WILD);
        if (Call.isRefusal(last.answerOf(again))) {
            refusals++;
            Check.due("refused " + last + " behind " + calls, View.of(again), seen);
        }
    }
}
