/** Compares answers with those that are due, and tells each wrong one with its line. */
final class Due {
    private static int wrong = 0;

    private Due() {
    }

    static void due(long want, long got) {
        due("", want, got);
    }

    static void due(String call, long want, long got) {
        if (want != got) {
            wrong++;
            System.out.println(line() + ": " + call + " answered " + got + ", due is " + want);
        }
    }

    /** Ends the test, with exit code 1 if an answer was wrong. */
    static void end() {
        System.out.println(wrong == 0 ? "all answers are as due" : wrong + " answers are not as due");
        if (wrong != 0) {
            System.exit(1);
        }
    }

    private static String line() {
        return StackWalker.getInstance().walk(frames -> frames
                .filter(frame -> !frame.getClassName().equals("Due"))
                .map(frame -> frame.getFileName() + ":" + frame.getLineNumber())
                .findFirst().orElse("?"));
    }
}
