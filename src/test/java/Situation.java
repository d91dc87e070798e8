/**
 * States of a table, some for each phase, in which calls are refused for unlike reasons. In each but
 * the first one key 3 and key 5 have rows, 7 is removed, no write of 9 has come, the walks 0 and 2
 * are there, and the text has a fault.
 */
enum Situation {
    // the phase 0
    NEW(""),
    OLD(Given.ROWS),

    // the phase 1; the pointer is at 0, at 30, at 31
    BEGUN(Given.ROWS + "begin"),
    BEGUN_FULL(Given.ROWS + "begin;" + Given.EIGHT),
    NEARLY(Given.ROWS + "begin; backfill 30"),
    READY(Given.READY),
    WAITING(Given.READY + "writeNew 3 777 3"),
    DIFFERING(Given.READY + "writeNew 3 777 3; crash"),
    READY_FULL(Given.READY + Given.EIGHT),

    // the phase 2
    TURNED(Given.READY + "turn"),
    TURNED_WAITING(Given.READY + "turn; writeNew 3 777 3"),
    TURNED_DIFFERING(Given.READY + "turn; writeNew 3 777 3; crash"),
    TURNED_FULL(Given.READY + "turn;" + Given.EIGHT),

    // the phase 3
    DROPPED(Given.READY + "turn; drop");

    private final String calls;

    Situation(String calls) {
        this.calls = calls;
    }

    /** Makes a table that is in this situation. */
    TwoShapes made() {
        return Call.make(new TwoShapes(), calls);
    }

    /** Makes a table that is in this situation, and then the calls. */
    TwoShapes and(String more) {
        return Call.make(made(), more);
    }

    private static final class Given {
        static final String ROWS = "writeOld 3 12 3 1; writeOld 5 4 5 0; writeOld 7 9 9 1; remove 7;"
                + "walk 0 0; step 0; walk 2 1; type 120; type 57; type 59;";
        static final String READY = ROWS + "begin; backfill 31;";
        static final String EIGHT = "writeNew 3 777 3; writeOld 3 1 1 0;".repeat(4);
    }
}
