import java.util.function.Supplier;

/**
 * "If several errors apply to a call, INVALID_ARGUMENT is returned rather than NOT_POSSIBLE,
 * NOT_POSSIBLE rather than LIMIT_REACHED, and LIMIT_REACHED rather than NOT_FOUND." (No call can
 * answer both of the last two.)
 */
final class ErrorOrderTest {
    private static final int BAD = TwoShapes.INVALID_ARGUMENT;
    private static final int NO = TwoShapes.NOT_POSSIBLE;
    private static final int FULL = TwoShapes.LIMIT_REACHED;

    public static void main(String[] args) {
        badRatherThanNotPossible();
        badRatherThanLimit();
        badRatherThanNotFound();
        notPossibleRatherThanLimit();
        notPossibleRatherThanNotFound();
        theOrderInTexts();
        Due.end();
    }

    /** The second call would be refused, too, were its argument good: by the other error. */
    private static void both(Supplier<TwoShapes> table, String bad, int error, String good, int otherError) {
        Due.due(good, otherError, Call.of(good).on(table.get()));
        Twins.refused("a table", table, Call.of(bad), error);
    }

    private static void badRatherThanNotPossible() {
        both(TwoShapes::new, "remove 31", BAD, "remove 30", NO);
        both(TwoShapes::new, "remove -1", BAD, "remove 0", NO);
        both(Situation.READY::made, "drain 0", BAD, "drain 1", NO);
        both(Situation.READY::made, "drain 9", BAD, "drain 8", NO);
        both(Situation.OLD::made, "backfill 0", BAD, "backfill 1", NO);
        both(Situation.READY::made, "backfill 32", BAD, "backfill 31", NO);
        both(Situation.TURNED::made, "backfill 32", BAD, "backfill 31", NO);
        both(Situation.OLD::made, "mend -1", BAD, "mend 0", NO);
        both(Situation.DROPPED::made, "mend 31", BAD, "mend 30", NO);
        both(Situation.OLD::made, "shapeOf 31 1 0", BAD, "shapeOf 30 1 0", NO);
        both(Situation.OLD::made, "shapeOf 3 1 5", BAD, "shapeOf 3 1 4", NO);
        both(Situation.DROPPED::made, "shapeOf -1 0 0", BAD, "shapeOf 0 0 0", NO);
        both(Situation.DROPPED::made, "shapeOf 3 0 -1", BAD, "shapeOf 3 0 0", NO);
        both(TwoShapes::new, "step -1", BAD, "step 0", NO);
        both(TwoShapes::new, "step 3", BAD, "step 2", NO);
    }

    private static void badRatherThanLimit() {
        for (Situation s : new Situation[] {Situation.BEGUN_FULL, Situation.READY_FULL, Situation.TURNED_FULL}) {
            both(s::made, "writeOld 31 99 9 1", BAD, "writeOld 30 99 9 1", FULL);
            both(s::made, "writeOld 30 100 9 1", BAD, "writeOld 30 99 9 1", FULL);
            both(s::made, "writeOld 30 99 10 1", BAD, "writeOld 30 99 9 1", FULL);
            both(s::made, "writeOld 30 99 9 2", BAD, "writeOld 30 99 9 1", FULL);
            both(s::made, "writeNew 31 999 3", BAD, "writeNew 30 999 3", FULL);
            both(s::made, "writeNew 30 1000 3", BAD, "writeNew 30 999 3", FULL);
            both(s::made, "writeNew 30 999 4", BAD, "writeNew 30 999 3", FULL);
            both(s::made, "remove 31", BAD, "remove 3", FULL);
        }
        Supplier<TwoShapes> fullText = () -> Situation.OLD.and("type 116;".repeat(60));
        both(fullText, "type 31", BAD, "type 32", FULL);
        both(fullText, "type 127", BAD, "type 126", FULL);
    }

    private static void badRatherThanNotFound() {
        for (Situation s : Situation.values()) {
            both(s::made, "read -1 0 0", BAD, "read 0 0 0", TwoShapes.NOT_FOUND);
            both(s::made, "read 31 0 0", BAD, "read 30 0 0", TwoShapes.NOT_FOUND);
            both(s::made, "read 9 2 1", BAD, "read 9 1 1", TwoShapes.NOT_FOUND);
            both(s::made, "read 9 1 2", BAD, "read 9 0 2", TwoShapes.NOT_FOUND);
            both(s::made, "queued 8 4", BAD, "queued 8 3", TwoShapes.NOT_FOUND);
            both(s::made, "queued 8 -1", BAD, "queued 8 0", TwoShapes.NOT_FOUND);
        }
        both(TwoShapes::new, "queued -1 0", BAD, "queued 0 0", TwoShapes.NOT_FOUND);
        both(Situation.OLD::made, "shapeOf 9 0 5", BAD, "shapeOf 9 0 4", TwoShapes.NOT_FOUND);
        both(Situation.READY::made, "shapeOf 3 1 5", BAD, "shapeOf 3 1 4", TwoShapes.NOT_FOUND);
        both(TwoShapes::new, "fault 2", BAD, "fault 1", TwoShapes.NOT_FOUND);
        both(TwoShapes::new, "fault -1", BAD, "fault 0", TwoShapes.NOT_FOUND);
    }

    private static void notPossibleRatherThanLimit() {
        for (Situation s : new Situation[] {Situation.BEGUN_FULL, Situation.READY_FULL, Situation.TURNED_FULL}) {
            both(s::made, "remove 9", NO, "remove 3", FULL);
            both(s::made, "remove 7", NO, "remove 3", FULL);
        }
    }

    private static void notPossibleRatherThanNotFound() {
        both(Situation.OLD::made, "shapeOf 9 1 2", NO, "shapeOf 9 0 2", TwoShapes.NOT_FOUND);
        both(Situation.OLD::made, "shapeOf 3 1 4", NO, "shapeOf 9 0 4", TwoShapes.NOT_FOUND);
        both(Situation.DROPPED::made, "shapeOf 9 0 2", NO, "shapeOf 9 1 2", TwoShapes.NOT_FOUND);
        both(Situation.DROPPED::made, "shapeOf 7 0 4", NO, "shapeOf 3 1 4", TwoShapes.NOT_FOUND);
    }

    private static void theOrderInTexts() {
        Due.due("the form rather than the range", 1, reason(Situation.OLD, "o31,1,1,1"));
        Due.due("the form rather than the range", 1, reason(Situation.OLD, "d0,;"));
        Due.due("the form rather than what is not possible", 1, reason(Situation.OLD, "x9"));
        Due.due("the range rather than what is not possible", 2, reason(Situation.OLD, "d0;"));
        Due.due("the range rather than what is not possible", 2, reason(Situation.DROPPED, "m31;"));
        Due.due("the range rather than the limit", 2, reason(Situation.TURNED_FULL, "n31,1,1;"));
    }

    private static int reason(Situation s, String text) {
        return Tables.withText(s.made(), text).fault(1);
    }
}
