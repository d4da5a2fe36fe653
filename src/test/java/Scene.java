/**
 * Objects in the states that tests begin with, a new one each time, with N 4, W 3 and Q 2 where
 * nothing else is said.
 */
final class Scene {
    private Scene() {}

    /** Entries 0 and 1 are counted; entry 2 is on store 2 alone, and no answer to it is known. */
    static Face writing() {
        Face x = Check.counted(4, 3, 2, 50, 51);
        x.add(52);
        Check.deliverFirst(x, Check.ADD);
        Check.loseAll(x);
        return x;
    }

    static Face stopped() {
        Face x = fencing();
        x.resend(2);
        Check.passWithAnswer(x, Check.ADD, 0, Check.REFUSED);
        Check.due("writer(0)", x.writer(0), 1);
        return x;
    }

    static Face done() {
        Face x = writing();
        x.resend(2);
        Check.due("close()", x.close(), true);
        return x;
    }

    static Face gone() {
        Face x = writing();
        x.resend(2);
        Check.due("leave()", x.leave(), true);
        return x;
    }

    /** Recoverer 1 knows of stores 0 and 1; FENCE to 2 and 3 is on its way. */
    static Face fencing() {
        Face x = writing();
        x.recover(1);
        Check.passWithAnswer(x, Check.FENCE, 0, Check.FENCED);
        Check.passWithAnswer(x, Check.FENCE, 1, Check.FENCED);
        Check.dueRecoverer(x, 1, 1, 1, 0, 2, 0);
        return x;
    }

    /** Recoverer 1 reads entry 2, which store 3 is known to miss; READ to 2 and 0 is on its way. */
    static Face reading() {
        Face x = fencing();
        Check.passWithAnswer(x, Check.FENCE, 2, Check.FENCED);
        Check.passWithAnswer(x, Check.READ, 3, Check.MISSING);
        Check.dueRecoverer(x, 1, 2, 1, 2, 1, 1);
        return x;
    }

    /** Recoverer 1 writes entry 2 back; store 3 has answered, ADD to 2 and 0 is on its way. */
    static Face writingBack() {
        Face x = reading();
        Check.passWithAnswer(x, Check.READ, 2, Check.GOT);
        Check.passWithAnswer(x, Check.ADD, 3, Check.ADDED);
        Check.dueRecoverer(x, 1, 3, 1, 2, 1, 1);
        return x;
    }

    /** Recoverer 1 has closed the ledger, which the writer does not know. */
    static Face recovered() {
        Face x = writingBack();
        Check.deliverAll(x);
        Check.dueRecoverer(x, 1, 4, 1, 3, 2, 1);
        Check.dueLedger(x, 2, 2, 2);
        return x;
    }

    /** Recoverer 1 gave up while it wrote back. */
    static Face abandoned() {
        Face x = writingBack();
        Check.due("abandon(1)", x.abandon(1), true);
        return x;
    }

    /** 20 messages are on their way, four entries to five stores; Q is 3. */
    static Face full() {
        Face x = new Real(5, 5, 3);
        for (int e = 0; e < 4; e++) {
            x.add(30 + e);
        }
        Check.due("flight()", x.flight(), 20);
        return x;
    }

    /** 20 entries, all of them counted, with N 3, W 2 and Q 1. */
    static Face twentyEntries() {
        int[] values = new int[20];
        for (int e = 0; e < 20; e++) {
            values[e] = 70 + e;
        }
        return Check.counted(3, 2, 1, values);
    }

    /** N, W and Q 3: one FENCED is enough to read on, and one MISSING to finish. */
    static Face empty() {
        return new Real(3, 3, 3);
    }

    /** N, W and Q 3, entry 0 with this value on store 0 alone, and no message on its way. */
    static Face onStoreZero(int value) {
        Face x = empty();
        x.add(value);
        Check.deliverFirst(x, Check.ADD);
        Check.loseAll(x);
        return x;
    }
}
