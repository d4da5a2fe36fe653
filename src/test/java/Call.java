import java.util.Random;

/** One call that may change something, with its arguments; b counts only for power. */
record Call(String name, int a, boolean b) {
    static final int IN_ORDER = 0;
    static final int ANY_ORDER = 1;
    static final int WILD = 2;
    /** Gets a writer to 20 entries within a walk. */
    static final int STEADY = 3;
    static final int STYLES = 4;

    private static final int[] ODD = {
        Integer.MIN_VALUE, -2, -1, 3, 5, 19, 20, 21, Integer.MAX_VALUE
    };

    /** What the answer was, an exception as its name. */
    String answerOf(Face x) {
        try {
            return switch (name) {
                case "add" -> "" + x.add(a);
                case "resend" -> "" + x.resend(a);
                case "close" -> "" + x.close();
                case "leave" -> "" + x.leave();
                case "recover" -> "" + x.recover(a);
                case "retry" -> "" + x.retry(a);
                case "abandon" -> "" + x.abandon(a);
                case "deliver" -> "" + x.deliver(a);
                case "lose" -> "" + x.lose(a);
                case "power" -> "" + x.power(a, b);
                default -> throw new AssertionError(name);
            };
        } catch (RuntimeException thrown) {
            return "throws." + thrown.getClass().getSimpleName();
        }
    }

    static boolean isRefusal(String answer) {
        return answer.equals("false") || answer.equals("-1") || answer.startsWith("throws.");
    }

    /** Mostly deliveries, so that things get on; a style says how wild the order is. */
    static Call any(Random random, int flight, int style) {
        if (style == STEADY && random.nextInt(50) > 0) {
            return flight < 3 && random.nextInt(3) > 0
                    ? new Call("add", random.nextInt(40) - 10, false)
                    : new Call("deliver", 0, false);
        }
        int dice = random.nextInt(100);
        if (dice < 62) {
            return new Call("deliver", style == IN_ORDER ? 0 : within(random, flight), false);
        }
        if (dice < 78) {
            return new Call("add", random.nextInt(40) - 10, false);
        }
        if (dice < 83) {
            return new Call("resend", random.nextInt(20), false);
        }
        if (dice < 87) {
            return new Call("retry", 1 + random.nextInt(2), false);
        }
        if (dice < 93) {
            return style == WILD ? rare(random, flight) : new Call("deliver", 0, false);
        }
        if (dice < 96) {
            return new Call("lose", within(random, flight), false);
        }
        return rare(random, flight);
    }

    private static Call rare(Random random, int flight) {
        int odd = random.nextInt(4) == 0 ? ODD[random.nextInt(ODD.length)] : random.nextInt(5);
        return switch (random.nextInt(12)) {
            case 0 -> new Call("recover", odd, false);
            case 1, 2 -> new Call("recover", 1 + random.nextInt(2), false);
            case 3 -> new Call("abandon", odd, false);
            case 4, 5, 6 -> new Call("power", odd, random.nextInt(5) > 1);
            case 7 -> new Call("deliver", random.nextBoolean() ? odd : flight, false);
            case 8 -> new Call("lose", random.nextBoolean() ? odd : flight, false);
            case 9 -> new Call("resend", odd, false);
            case 10 -> new Call("retry", odd, false);
            default -> new Call(random.nextInt(4) == 0 ? "close" : "leave", 0, false);
        };
    }

    private static int within(Random random, int flight) {
        return flight == 0 ? 0 : random.nextInt(flight);
    }
}
