/** Counts answers that are not as due; the last call ends the test. */
final class Due {
    interface Call {
        Object answer();
    }

    private static int checks = 0;
    private static int wrong = 0;

    private Due() {
    }

    static void same(String call, long got, long want) {
        checks++;
        if (got != want) {
            wrong++;
            System.out.println(call + " answered " + got + ", due is " + want);
        }
    }

    static void same(String call, boolean got, boolean want) {
        same(call, got ? 1 : 0, want ? 1 : 0);
    }

    static void same(String call, double got, double want) {
        checks++;
        if (got != want) {
            wrong++;
            System.out.println(call + " answered " + got + ", due is " + want);
        }
    }

    /** What the call answered, or which exception it threw, as one text. */
    static String told(Call call) {
        try {
            return String.valueOf(call.answer());
        } catch (RuntimeException e) {
            return e.getClass().getSimpleName();
        }
    }

    static void sameText(String call, String got, String want) {
        checks++;
        if (!got.equals(want)) {
            wrong++;
            System.out.println(call + " answered " + got + ", due is " + want);
        }
    }

    static void outOfBounds(String call, Call made) {
        sameText(call, told(made), "IndexOutOfBoundsException");
    }

    static void badArgument(String call, Call made) {
        sameText(call, told(made), "IllegalArgumentException");
    }

    static void badState(String call, Call made) {
        sameText(call, told(made), "IllegalStateException");
    }

    static int wrong() {
        return wrong;
    }

    static void end() {
        System.out.println(checks + " answers looked at, " + wrong + " not as due");
        if (wrong != 0 || checks == 0) {
            System.exit(1);
        }
    }
}
