import java.util.ArrayList;
import java.util.List;
import java.util.Random;

/**
 * The document's first sentence, over walks of calls that are the same each time: when a ledger is
 * closed, it is so at one point for all; no entry that counted lies above this point; and what lies
 * below it can be read as it was added.
 */
public final class WhatItIsTest {
    private static final int WALKS = 20000;
    /** Three calls for each step, and a hundred at the end, stay below an object's 512. */
    private static final int STEPS = 130;
    private static final int WRITING = 0;
    private static final int CLOSED = 2;
    private static final int DONE = 4;

    private static int closedLedgers = 0;
    private static int foundMore = 0;
    private static int writerUnaware = 0;

    public static void main(String[] args) {
        Random random = new Random(21);
        for (int k = 0; k < WALKS; k++) {
            walk(random, k);
        }
        Check.due("walks that close the ledger", closedLedgers > 1000, true);
        Check.due("walks that close it above LAC", foundMore > 100, true);
        Check.due("walks that close it while the writer is WRITING", writerUnaware > 100, true);
        Check.end();
    }

    private static void walk(Random random, int number) {
        Face x = new Real(3 + random.nextInt(3), 2 + random.nextInt(4), 1 + random.nextInt(5));
        List<Integer> values = new ArrayList<>();
        boolean closed = false;
        int last = FencedLedger.NONE;
        for (int k = 0; k < STEPS; k++) {
            Call call = Call.any(random, x.flight(), number % Call.STYLES);
            String answer = call.answerOf(x);
            if (call.name().equals("add") && !Call.isRefusal(answer)) {
                values.add(call.a());
            }
            if (!closed && x.ledger(0) == CLOSED) {
                closed = true;
                last = x.ledger(2);
            }
        }
        if (closed) {
            String story = "walk " + number + ": ";
            count(x, last);
            whatCountedIsThere(x, values, last, story);
            onePointForAll(x, last, story);
        }
    }

    private static void count(Face x, int last) {
        closedLedgers++;
        foundMore += last > x.writer(2) ? 1 : 0;
        writerUnaware += x.writer(0) == WRITING ? 1 : 0;
    }

    private static void whatCountedIsThere(Face x, List<Integer> values, int last, String story) {
        Check.due(story + "LAC is at most LAST", x.writer(2) <= last, true);
        for (int s = 0; s < 5; s++) {
            x.power(s, true);
        }
        for (int e = 0; e <= last; e++) {
            Check.due(story + "read(" + e + ")", x.read(e), values.get(e));
        }
    }

    /** Those who come later, and what is still on its way, do not move the point. */
    private static void onePointForAll(Face x, int last, String story) {
        for (int r = 1; r <= 2; r++) {
            x.abandon(r);
            x.recover(r);
            Check.due(story + "recoverer(" + r + ", 0)", x.recoverer(r, 0), DONE);
        }
        Check.due(story + "close()", x.close(), false);
        for (int k = 0; k < 40; k++) {
            x.deliver(0);
        }
        Check.due(story + "LAST", x.ledger(2), last);
        Check.due(story + "LAC is at most LAST in the end", x.writer(2) <= last, true);
    }
}
