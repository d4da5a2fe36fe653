import java.util.function.Function;
import java.util.function.Supplier;

/**
 * A call that answers false or NONE, or throws: it must do so, and an object that was so called
 * must look and go on like one that was not. Looking at all takes most of an object's 512 calls, so
 * that each look has an object of its own.
 */
final class Refusal {
    private Refusal() {}

    static void due(
            String what, Supplier<Face> scene, Function<Face, Object> call, Object want) {
        Face looked = scene.get();
        Check.due(what, answer(looked, call), String.valueOf(want));
        Check.due("the state behind " + what, View.of(looked), View.of(scene.get()));
        Face goesOn = scene.get();
        answer(goesOn, call);
        Check.due("what comes behind " + what, later(goesOn), later(scene.get()));
    }

    static String answer(Face x, Function<Face, Object> call) {
        try {
            return String.valueOf(call.apply(x));
        } catch (RuntimeException thrown) {
            return "throws." + thrown.getClass().getSimpleName();
        }
    }

    /** What the state hides, such as values and who has answered, shows as the work goes on. */
    private static String later(Face x) {
        StringBuilder text = new StringBuilder();
        for (int s = 0; s < 5; s++) {
            text.append(x.power(s, true)).append(' ');
        }
        deliverAll(x, text);
        for (int e = x.writer(2); e < x.writer(1); e++) {
            text.append(x.resend(e)).append(" of value ").append(x.message(0, 4)).append(' ');
        }
        text.append(x.retry(1)).append(' ').append(x.retry(2)).append(' ');
        deliverAll(x, text);
        text.append(x.recover(1)).append(' ');
        deliverAll(x, text);
        for (int w = 0; w < 5; w++) {
            text.append(x.ledger(w)).append(' ').append(x.recoverer(1, w)).append(' ');
        }
        for (int e = 0; e < 20; e++) {
            int entry = e;
            text.append(answer(x, y -> y.read(entry))).append(' ');
        }
        return text.toString();
    }

    private static void deliverAll(Face x, StringBuilder text) {
        int kind = x.deliver(0);
        for (int left = 300; left > 0 && kind != FencedLedger.NONE; left--) {
            text.append(kind).append(' ');
            kind = x.deliver(0);
        }
    }
}
