/** What the tests share: each prints the calls whose answer is not the one that is due. */
final class Check {
    interface Call {
        long answer();
    }

    private static int wrong = 0;
    private static String tested = "";

    private Check() {
    }

    static void is(String call, long got, long want) {
        if (got != want) {
            report(call + " answered " + got + ", due is " + want);
        }
    }

    static void is(String call, boolean got, boolean want) {
        is(call, got ? 1 : 0, want ? 1 : 0);
    }

    static void is(String call, String got, String want) {
        if (!got.equals(want)) {
            report(call + " answered " + got + ", due is " + want);
        }
    }

    static void noSuchOne(String name, Call call) {
        is(name, answerOf(call), "throws.IndexOutOfBoundsException");
    }

    static void outOfRange(String name, Call call) {
        is(name, answerOf(call), "throws.IllegalArgumentException");
    }

    static void mayNot(String name, Call call) {
        is(name, answerOf(call), "throws.UnsupportedOperationException");
    }

    static void badState(String name, Call call) {
        is(name, answerOf(call), "throws.IllegalStateException");
    }

    /** The name of just the class that was thrown: the machine's own exceptions are other classes. */
    static String answerOf(Call call) {
        try {
            return Long.toString(call.answer());
        } catch (RuntimeException thrown) {
            return "throws." + thrown.getClass().getSimpleName();
        }
    }

    /** What is tested from here on; it stands ahead of each report. */
    static void testing(String what) {
        tested = what.isEmpty() ? "" : what + "\n    ";
    }

    static void report(String fault) {
        wrong++;
        System.out.println(tested + fault);
    }

    static void end() {
        System.out.println(wrong == 0 ? "all answers are as due" : wrong + " answers are not as due");
        if (wrong != 0) {
            System.exit(1);
        }
    }
}
