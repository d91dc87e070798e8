/** Compares answers with those that are due, and tells the wrong ones with their lines. */
final class Due {
    private static final int TOLD = 200;
    private static int wrong = 0;

    private Due() {
    }

    static void due(long want, long got) {
        due("", want, got);
    }

    static void due(String call, long want, long got) {
        if (want != got) {
            wrong++;
            if (wrong <= TOLD) {
                System.out.println(line() + ": " + call + " answered " + got + ", due is " + want);
            }
        }
    }

    /** Ends the test, with exit code 1 if an answer was wrong. */
    static void end() {
        System.out.println(wrong == 0 ? "all answers are as due" : wrong + " answers are not as due");
        if (wrong != 0) {
            System.exit(1);
        }
    }

    /** The line of the test itself, not that of a helper. */
    private static String line() {
        return StackWalker.getInstance().walk(frames -> frames
                .filter(frame -> frame.getClassName().endsWith("Test"))
                .map(frame -> frame.getFileName() + ":" + frame.getLineNumber())
                .findFirst().orElse("?"));
    }
}
