/** The document's 'Terms': the channel of at most 20 messages, and stores that are down. */
public final class EdgesTermsChannelTest {
    private static final int NONE = FencedLedger.NONE;

    public static void main(String[] args) {
        Check.edge("at most 20 MESSAGES", EdgesTermsChannelTest::twentiethFits);
        Check.edge("at most 20 MESSAGES", EdgesTermsChannelTest::placeIsFreeAgain);
        Check.edge("what is sent comes to its end", EdgesTermsChannelTest::comesToTheEnd);
        String lost = "or is lost if there are 20";
        Check.edge(lost, EdgesTermsChannelTest::addWhenFull);
        Check.edge(lost, EdgesTermsChannelTest::addWithOnePlace);
        Check.edge(lost, EdgesTermsChannelTest::resendWhenFull);
        Check.edge(lost, EdgesTermsChannelTest::resendWithOnePlace);
        Check.edge(lost, EdgesTermsChannelTest::recoverWhenFull);
        Check.edge(lost, EdgesTermsChannelTest::recoverWithFourPlaces);
        Check.edge(lost, EdgesTermsChannelTest::retryWhenFull);
        Check.edge(lost, EdgesTermsChannelTest::retryWithOnePlace);
        Check.edge(lost, EdgesTermsChannelTest::readsBehindFenced);
        Check.edge(lost, EdgesTermsChannelTest::addsBehindGot);
        Check.edge(lost, EdgesTermsChannelTest::readsBehindAdded);
        String order = "They are delivered or lost one by one as the caller says, in any order";
        Check.edge(order, EdgesTermsChannelTest::deliversLastFirst);
        Check.edge(order, EdgesTermsChannelTest::losesFromTheMiddle);
        String down = "a message that is delivered to a store that is not UP is lost";
        Check.edge(down, EdgesTermsChannelTest::addToStoreThatIsDown);
        Check.edge(down, EdgesTermsChannelTest::fenceToStoreThatIsDown);
        Check.edge(down, EdgesTermsChannelTest::readToStoreThatIsDown);
        Check.edge(down, EdgesTermsChannelTest::writeBackToStoreThatIsDown);
        Check.edge(down, EdgesTermsChannelTest::doesNotComeBack);
        String client = "(7) are delivered to the client";
        Check.edge(client, EdgesTermsChannelTest::writerHearsOfStoreThatIsDown);
        Check.edge(client, EdgesTermsChannelTest::recovererHearsOfStoreThatIsDown);
        Check.edge("Answers are sent in the call", EdgesTermsChannelTest::answerOfTheLastPlace);
        Check.edge("a TERM (0 where nothing else is said)", EdgesTermsChannelTest::termOfTheWriter);
        Check.end();
    }

    /** 15 of ADD and 5 of FENCE. */
    private static void twentiethFits() {
        Face x = new Real(5, 5, 1);
        x.add(1);
        x.add(2);
        x.add(3);
        Check.due("flight()", x.flight(), 15);
        x.recover(1);
        Check.due("flight()", x.flight(), 20);
        Check.dueMessage(x, 19, Check.FENCE, 1, 4, 0, 0, 1, 0);
        Check.due("message(20, 0)", x.message(20, 0), NONE);
    }

    private static void placeIsFreeAgain() {
        Face x = Scene.full();
        x.lose(19);
        x.lose(0);
        Check.due("flight()", x.flight(), 18);
        x.resend(3);
        Check.due("flight()", x.flight(), 20);
        Check.dueMessage(x, 17, Check.ADD, 0, 1, 3, 33);
        Check.dueMessage(x, 18, Check.ADD, 0, 3, 3, 33);
        Check.dueMessage(x, 19, Check.ADD, 0, 4, 3, 33);
    }

    private static void comesToTheEnd() {
        Face x = new Real(3, 2, 1);
        x.add(5);
        x.recover(2);
        x.add(6);
        int[] kinds = {Check.ADD, Check.ADD, 1, 1, 1, Check.ADD, Check.ADD};
        for (int i = 0; i < kinds.length; i++) {
            Check.due("message(" + i + ", 0)", x.message(i, 0), kinds[i]);
        }
        Check.dueMessage(x, 6, Check.ADD, 0, 2, 1, 6);
    }

    private static void addWhenFull() {
        Face x = new Real(5, 5, 1);
        x.recover(1);
        x.retry(1);
        x.retry(1);
        x.retry(1);
        Check.due("add", x.add(9), 0);
        Check.due("flight()", x.flight(), 20);
        Check.dueMessage(x, 19, Check.FENCE, 1, 4, 0, 0, 1, 0);
        Check.dueWriter(x, 0, 1, -1);
        Check.loseAll(x);
        Check.due("resend(0)", x.resend(0), 5);
        Check.dueMessage(x, 0, Check.ADD, 0, 0, 0, 9, 0, -1);
    }

    private static void addWithOnePlace() {
        Face x = new Real(5, 5, 1);
        x.recover(1);
        x.retry(1);
        x.retry(1);
        x.retry(1);
        x.lose(7);
        Check.due("add", x.add(9), 0);
        Check.due("flight()", x.flight(), 20);
        Check.dueMessage(x, 19, Check.ADD, 0, 0, 0, 9, 0, -1);
    }

    private static void resendWhenFull() {
        Face x = Scene.full();
        x.resend(0);
        Check.due("flight()", x.flight(), 20);
        Check.dueMessage(x, 0, Check.ADD, 0, 0, 0, 30);
        Check.dueMessage(x, 19, Check.ADD, 0, 2, 3, 33);
    }

    private static void resendWithOnePlace() {
        Face x = Scene.full();
        x.lose(5);
        x.resend(2);
        Check.due("flight()", x.flight(), 20);
        Check.dueMessage(x, 18, Check.ADD, 0, 2, 3, 33);
        Check.dueMessage(x, 19, Check.ADD, 0, 2, 2, 32);
    }

    private static void recoverWhenFull() {
        Face x = Scene.full();
        Check.due("recover(1)", x.recover(1), true);
        Check.due("flight()", x.flight(), 20);
        Check.dueMessage(x, 19, Check.ADD, 0, 2, 3, 33);
        Check.dueRecoverer(x, 1, 1, 1, 0, 0, -1);
        Check.dueLedger(x, 1, 1, -1);
    }

    private static void recoverWithFourPlaces() {
        Face x = Scene.full();
        for (int k = 0; k < 4; k++) {
            x.lose(0);
        }
        x.recover(1);
        Check.due("flight()", x.flight(), 20);
        for (int s = 0; s < 4; s++) {
            Check.dueMessage(x, 16 + s, Check.FENCE, 1, s, 0, 0, 1, 0);
        }
    }

    private static void retryWhenFull() {
        Face x = Scene.writingBack();
        Check.fillWith(x, 2);
        int kind = x.message(19, 0);
        int client = x.message(19, 1);
        x.retry(1);
        Check.due("flight()", x.flight(), 20);
        Check.dueMessage(x, 19, kind, client);
        Check.dueRecoverer(x, 1, 3, 1, 2, 1, 1);
    }

    private static void retryWithOnePlace() {
        Face x = Scene.writingBack();
        Check.fillWith(x, 2);
        x.lose(19);
        x.retry(1);
        Check.due("flight()", x.flight(), 20);
        Check.dueMessage(x, 19, Check.ADD, 1, 2, 2, 52, 1, 1);
    }

    private static void readsBehindFenced() {
        Face x = new Real(5, 5, 5);
        x.recover(1);
        Check.deliverFirst(x, Check.FENCE);
        x.add(7);
        Check.fillWith(x, 0);
        Check.due("deliver(4)", x.deliver(4), Check.FENCED);
        Check.dueRecoverer(x, 1, 2, 1, 0, 0, -1);
        Check.due("flight()", x.flight(), 20);
        Check.dueMessage(x, 18, Check.ADD, 0);
        Check.dueMessage(x, 19, Check.READ, 1, 0, 0, 0, 1, 0);
    }

    private static void addsBehindGot() {
        Face x = Scene.onStoreZero(7);
        x.recover(1);
        Check.passWithAnswer(x, Check.FENCE, 0, Check.FENCED);
        Check.pass(x, Check.READ, 0);
        // FENCE to 1 and 2, READ to 1 and 2, GOT
        Check.due("flight()", x.flight(), 5);
        Check.fillWith(x, 0);
        Check.due("deliver(4)", x.deliver(4), Check.GOT);
        Check.dueRecoverer(x, 1, 3, 1, 0, 0, -1);
        Check.due("flight()", x.flight(), 20);
        Check.dueMessage(x, 18, Check.ADD, 0);
        Check.dueMessage(x, 19, Check.ADD, 1, 0, 0, 7, 1, -1);
    }

    private static void readsBehindAdded() {
        Face x = Scene.writingBack();
        Check.pass(x, Check.ADD, 2);
        int answer = x.flight() - 1;
        Check.fillWith(x, 2);
        Check.due("deliver of ADDED", x.deliver(answer), Check.ADDED);
        Check.dueRecoverer(x, 1, 2, 1, 3, 0, 1);
        Check.due("flight()", x.flight(), 20);
        Check.dueMessage(x, 18, Check.ADD, 0);
        Check.dueMessage(x, 19, Check.READ, 1, 3, 3, 0, 1, 0);
    }

    private static void deliversLastFirst() {
        Face x = new Real(3, 3, 3);
        x.add(5);
        Check.due("deliver(2)", x.deliver(2), Check.ADD);
        Check.due("has(2, 0)", x.has(2, 0), true);
        Check.due("deliver(2)", x.deliver(2), Check.ADDED);
        Check.due("deliver(1)", x.deliver(1), Check.ADD);
        Check.due("has(1, 0)", x.has(1, 0), true);
        Check.due("has(0, 0)", x.has(0, 0), false);
        Check.dueMessage(x, 0, Check.ADD, 0, 0);
        Check.dueMessage(x, 1, Check.ADDED, 0, 1);
        Check.due("answers(0)", x.answers(0), 1);
    }

    private static void losesFromTheMiddle() {
        Face x = new Real(5, 5, 3);
        x.add(5);
        x.lose(2);
        x.lose(2);
        Check.due("flight()", x.flight(), 3);
        Check.dueMessage(x, 0, Check.ADD, 0, 0);
        Check.dueMessage(x, 1, Check.ADD, 0, 1);
        Check.dueMessage(x, 2, Check.ADD, 0, 4);
        Check.deliverAll(x);
        Check.due("has(2, 0)", x.has(2, 0), false);
        Check.due("has(3, 0)", x.has(3, 0), false);
        Check.due("has(4, 0)", x.has(4, 0), true);
    }

    private static void addToStoreThatIsDown() {
        Face x = Check.counted(3, 3, 2, 5);
        x.add(6);
        x.power(2, false);
        Check.pass(x, Check.ADD, 2);
        Check.due("flight()", x.flight(), 2);
        Check.dueStore(x, 2, 0, 0, -1, 1);
        Check.due("has(2, 1)", x.has(2, 1), false);
    }

    private static void fenceToStoreThatIsDown() {
        Face x = new Real(3, 3, 2);
        x.recover(1);
        x.power(1, false);
        Check.pass(x, Check.FENCE, 1);
        Check.due("flight()", x.flight(), 2);
        Check.dueStore(x, 1, 0, 0, -1, 0);
    }

    private static void readToStoreThatIsDown() {
        Face x = Scene.empty();
        x.recover(1);
        Check.passWithAnswer(x, Check.FENCE, 0, Check.FENCED);
        x.power(1, false);
        Check.due("flight()", x.flight(), 5);
        Check.pass(x, Check.READ, 1);
        Check.due("flight()", x.flight(), 4);
        Check.dueStore(x, 1, 0, 0, -1, 0);
    }

    private static void writeBackToStoreThatIsDown() {
        Face x = Scene.writingBack();
        x.power(0, false);
        int flight = x.flight();
        Check.pass(x, Check.ADD, 0);
        Check.due("flight()", x.flight(), flight - 1);
        Check.due("has(0, 2)", x.has(0, 2), false);
        Check.dueStore(x, 0, 0, 1, -1, 1);
        Check.dueRecoverer(x, 1, 3, 1, 2, 1, 1);
    }

    private static void doesNotComeBack() {
        Face x = new Real(3, 2, 1);
        x.add(6);
        x.power(0, false);
        Check.pass(x, Check.ADD, 0);
        x.power(0, true);
        Check.due("flight()", x.flight(), 1);
        Check.deliverAll(x);
        Check.due("has(0, 0)", x.has(0, 0), false);
        Check.due("answers(0)", x.answers(0), 1);
    }

    private static void writerHearsOfStoreThatIsDown() {
        Face x = new Real(3, 2, 1);
        x.add(6);
        Check.pass(x, Check.ADD, 1);
        x.power(1, false);
        Check.pass(x, Check.ADDED, 1);
        Check.dueWriter(x, 0, 1, 0);
    }

    private static void recovererHearsOfStoreThatIsDown() {
        Face x = Scene.empty();
        x.recover(2);
        Check.pass(x, Check.FENCE, 2);
        x.power(2, false);
        Check.pass(x, Check.FENCED, 2);
        Check.dueRecoverer(x, 2, 2, 1, 0, 0, -1);
    }

    /** The message that is delivered has left a full channel before its answer comes. */
    private static void answerOfTheLastPlace() {
        Face x = Scene.full();
        Check.due("deliver(0)", x.deliver(0), Check.ADD);
        Check.due("flight()", x.flight(), 20);
        Check.dueMessage(x, 18, Check.ADD, 0, 2, 3, 33);
        Check.dueMessage(x, 19, Check.ADDED, 0, 0, 0);
        Check.due("deliver(18)", x.deliver(18), Check.ADD);
        Check.dueMessage(x, 19, Check.ADDED, 0, 2, 3);
    }

    private static void termOfTheWriter() {
        Face x = new Real(3, 2, 1);
        x.recover(1);
        Check.pass(x, Check.FENCE, 1);
        Check.loseAll(x);
        x.add(6);
        Check.dueMessage(x, 0, Check.ADD, 0, 0, 0, 6, 0, -1);
        Check.deliverFirst(x, Check.ADD, Check.ADD);
        Check.dueMessage(x, 0, Check.ADDED, 0, 0, 0, 0, 0, 0);
        Check.dueMessage(x, 1, Check.REFUSED, 0, 1, 0, 0, 0, 0);
    }
}
