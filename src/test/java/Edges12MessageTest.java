public final class Edges12MessageTest {
    private static final int NONE = FencedLedger.NONE;

    public static void main(String[] args) {
        Check.edge("3: the entry (0 for FENCE and FENCED)", Edges12MessageTest::entryOfFence);
        Check.edge("3: the entry (0 for FENCE and FENCED)", Edges12MessageTest::entryOfFenced);
        Check.edge("3: the entry", Edges12MessageTest::firstAndLastEntry);
        String value = "4: the value of ADD and GOT, the MARK of FENCED, 0 for others";
        Check.edge(value, Edges12MessageTest::valueOfOthers);
        Check.edge(value, Edges12MessageTest::markOfFenced);
        Check.edge("5: the TERM", Edges12MessageTest::termOfWriterAndRecoverers);
        Check.edge("6: the mark of ADD, 0 for others", Edges12MessageTest::markOfOthers);
        Check.edge("NONE if there is no such message", Edges12MessageTest::emptyChannel);
        Check.edge("NONE if there is no such message", Edges12MessageTest::messageTooSmall);
        Check.edge("NONE if there is no such message", Edges12MessageTest::messageTooLarge);
        Check.edge("NONE if there is no such message", Edges12MessageTest::behindTwenty);
        Check.edge("or w", Edges12MessageTest::wTooSmall);
        Check.edge("or w", Edges12MessageTest::wTooLarge);
        String minus = "(A value or mark can be -1, too.)";
        Check.edge(minus, Edges12MessageTest::valueMinusOneOfAdd);
        Check.edge(minus, Edges12MessageTest::valueMinusOneOfGot);
        Check.edge(minus, Edges12MessageTest::markMinusOneOfAdd);
        Check.edge(minus, Edges12MessageTest::markMinusOneOfFenced);
        Check.end();
    }

    /** Recoverer 1 was READING entry 2 and begins again: E is 2, but FENCE has no entry. */
    private static Face fencingWithEntryTwo() {
        Face x = Scene.reading();
        x.abandon(1);
        Check.loseAll(x);
        x.recover(1);
        Check.due("recoverer(1, 2)", x.recoverer(1, 2), 2);
        return x;
    }

    private static void entryOfFence() {
        Check.dueMessage(fencingWithEntryTwo(), 0, Check.FENCE, 1, 0, 0, 0, 2, 0);
    }

    private static void entryOfFenced() {
        Face x = fencingWithEntryTwo();
        Check.pass(x, Check.FENCE, 2);
        Check.dueMessage(x, 3, Check.FENCED, 1, 2, 0, 1, 2, 0);
    }

    private static void firstAndLastEntry() {
        Face x = new Real(3, 2, 1);
        x.add(5);
        Check.due("message(0, 3)", x.message(0, 3), 0);
        Face y = Check.counted(3, 2, 1, new int[19]);
        y.add(5);
        Check.due("message(0, 3)", y.message(0, 3), 19);
        Check.deliverFirst(y, Check.ADD);
        Check.due("message(1, 3) of ADDED", y.message(1, 3), 19);
    }

    private static void dueOthers(int w) {
        Face x = Scene.writingBack();
        // FENCE to 3, READ to 0, ADD to 2 and 0
        Check.due("FENCE", x.message(0, 0), Check.FENCE);
        Check.due("of FENCE", x.message(0, w), 0);
        Check.due("READ", x.message(1, 0), Check.READ);
        Check.due("of READ", x.message(1, w), 0);
        Check.pass(x, Check.READ, 0);
        Check.due("MISSING", x.message(3, 0), Check.MISSING);
        Check.due("of MISSING", x.message(3, w), 0);
        Check.pass(x, Check.ADD, 2);
        Check.due("ADDED", x.message(3, 0), Check.ADDED);
        Check.due("of ADDED", x.message(3, w), 0);
        x.resend(2);
        Check.loseAllBut(x, Check.ADD);
        x.deliver(2);
        Check.due("REFUSED", x.message(3, 0), Check.REFUSED);
        Check.due("of REFUSED", x.message(3, w), 0);
    }

    private static void valueOfOthers() {
        dueOthers(4);
    }

    private static void markOfFenced() {
        Face x = Scene.writing();
        x.recover(1);
        int[] marks = {-1, 0, 1, 0};
        for (int s = 0; s < 4; s++) {
            Check.deliverFirst(x, Check.FENCE);
            Check.dueMessage(x, 3, Check.FENCED, 1, s, 0, marks[s], 1, 0);
        }
    }

    private static void termOfWriterAndRecoverers() {
        Face x = Scene.writingBack();
        x.recover(2);
        x.resend(2);
        int[] terms = {1, 1, 1, 1, 2, 2, 2, 2, 0, 0, 0};
        for (int i = 0; i < terms.length; i++) {
            Check.due("message(" + i + ", 5)", x.message(i, 5), terms[i]);
        }
    }

    private static void markOfOthers() {
        dueOthers(6);
        Face x = Scene.fencing();
        Check.pass(x, Check.FENCE, 2);
        Check.due("FENCED", x.message(1, 0), Check.FENCED);
        Check.due("of FENCED, whose MARK is 1", x.message(1, 6), 0);
        Face y = Scene.reading();
        Check.pass(y, Check.READ, 2);
        Check.due("GOT", y.message(2, 0), Check.GOT);
        Check.due("of GOT", y.message(2, 6), 0);
    }

    private static void emptyChannel() {
        for (int w = 0; w < 7; w++) {
            int which = w;
            String what = "message(0, " + w + ") of none";
            Refusal.due(what, Scene::empty, x -> x.message(0, which), NONE);
        }
    }

    private static void messageTooSmall() {
        for (int i : new int[] {Integer.MIN_VALUE, -1}) {
            Refusal.due("message(" + i + ", 0)", Scene::full, x -> x.message(i, 0), NONE);
        }
    }

    private static void messageTooLarge() {
        int flight = Scene.writingBack().flight();
        for (int i : new int[] {flight, 19, 20, Integer.MAX_VALUE}) {
            Refusal.due("message(" + i + ", 0)", Scene::writingBack, x -> x.message(i, 0), NONE);
        }
    }

    private static void behindTwenty() {
        Check.due("message(19, 3)", Scene.full().message(19, 3), 3);
        Refusal.due("message(20, 3)", Scene::full, x -> x.message(20, 3), NONE);
    }

    private static void wTooSmall() {
        for (int w : new int[] {Integer.MIN_VALUE, -1}) {
            Refusal.due("message(0, " + w + ")", Scene::full, x -> x.message(0, w), NONE);
        }
    }

    private static void wTooLarge() {
        for (int w : new int[] {7, 8, Integer.MAX_VALUE}) {
            Refusal.due("message(0, " + w + ")", Scene::full, x -> x.message(0, w), NONE);
        }
    }

    private static void valueMinusOneOfAdd() {
        Face x = new Real(3, 2, 1);
        x.add(-1);
        Check.dueMessage(x, 0, Check.ADD, 0, 0, 0, -1, 0, -1);
    }

    private static void valueMinusOneOfGot() {
        Face x = Scene.onStoreZero(-1);
        x.recover(1);
        Check.passWithAnswer(x, Check.FENCE, 0, Check.FENCED);
        Check.pass(x, Check.READ, 0);
        Check.dueMessage(x, 4, Check.GOT, 1, 0, 0, -1, 1, 0);
    }

    private static void markMinusOneOfAdd() {
        Face x = new Real(3, 2, 1);
        x.add(5);
        Check.due("message(1, 6)", x.message(1, 6), -1);
    }

    private static void markMinusOneOfFenced() {
        Face x = new Real(3, 2, 1);
        x.recover(1);
        Check.deliverFirst(x, Check.FENCE);
        Check.dueMessage(x, 2, Check.FENCED, 1, 0, 0, -1, 1, 0);
    }
}
