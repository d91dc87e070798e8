/** Promises 6 to 12: writeOld, writeNew, remove, drain, backfill, crash, mend. */
final class WritingTest {
    private static final int BAD = TwoShapes.INVALID_ARGUMENT;
    private static final int NO = TwoShapes.NOT_POSSIBLE;
    private static final int FULL = TwoShapes.LIMIT_REACHED;
    private static final int NONE = TwoShapes.NOT_FOUND;

    public static void main(String[] args) {
        writeOldRanges();
        writeNewRanges();
        writeInEachPhase();
        queueLimit();
        removal();
        removalWhenFull();
        drain();
        drainLeavesNewer();
        backfill();
        backfillTakesOnlyOlder();
        backfillGivesRemovals();
        crash();
        mendToNew();
        mendToOld();
        mendNotPossible();
        versionLimit();
        Due.end();
    }

    private static void writeOldRanges() {
        TwoShapes x = new TwoShapes();
        int[][] wrong = {{-1, 0, 0, 0}, {31, 0, 0, 0}, {0, -1, 0, 0}, {0, 100, 0, 0}, {0, 0, -1, 0},
            {0, 0, 10, 0}, {0, 0, 0, -1}, {0, 0, 0, 2}, {Integer.MIN_VALUE, 0, 0, 0}, {0, Integer.MAX_VALUE, 0, 0}};
        for (int[] w : wrong) {
            Due.due(BAD, x.writeOld(w[0], w[1], w[2], w[3]));
        }
        Due.due("an error changes nothing", 0, x.count(11));
        Due.due(1, x.writeOld(0, 0, 0, 0));
        Due.due(2, x.writeOld(30, 99, 9, 1));
        Due.due(0, x.read(0, 0, 0));
        Due.due(99, x.read(30, 0, 0));
        Due.due(9, x.read(30, 0, 1));
        Due.due(1, x.read(30, 0, 2));
        Due.due(999, x.read(30, 1, 0));
        Due.due(1, x.read(30, 1, 1));
    }

    private static void writeNewRanges() {
        TwoShapes x = new TwoShapes();
        int[][] wrong = {{-1, 0, 0}, {31, 0, 0}, {0, -1, 0}, {0, 1000, 0}, {0, 0, -1}, {0, 0, 4},
            {0, Integer.MIN_VALUE, 0}, {0, 0, Integer.MAX_VALUE}};
        for (int[] w : wrong) {
            Due.due(BAD, x.writeNew(w[0], w[1], w[2]));
        }
        Due.due(0, x.count(1));
        int[] c = {0, 1, 1, 1};
        for (int v = 0; v < 4; v++) {
            Due.due(v + 1, x.writeNew(v, 999 - v, v));
            Due.due(99, x.read(v, 0, 0));
            Due.due(9 - v, x.read(v, 0, 1));
            Due.due(c[v], x.read(v, 0, 2));
            Due.due("the old shape cannot tell more", c[v], x.read(v, 1, 1));
        }
        Due.due(5, x.writeNew(30, 0, 0));
    }

    private static void writeInEachPhase() {
        TwoShapes x = Tables.both();
        Due.due(5, x.writeNew(3, 457, 3));
        Due.due(45, x.shapeOf(3, 0, 2));
        Due.due(7, x.shapeOf(3, 0, 3));
        Due.due(1, x.shapeOf(3, 0, 4));
        Due.due(0, x.shapeOf(3, 1, 0));
        Due.due(1, x.count(3));
        x.drain(1);
        Due.due("made over from what was written", 3, x.shapeOf(3, 1, 3));
        TwoShapes y = Tables.turned();
        Due.due(5, y.writeOld(3, 45, 7, 1));
        Due.due(457, y.shapeOf(3, 1, 2));
        Due.due(12, y.shapeOf(3, 0, 2));
        Due.due(6, y.writeNew(5, 60, 2));
        Due.due(2, y.shapeOf(5, 1, 3));
        y.drain(8);
        Due.due(45, y.shapeOf(3, 0, 2));
        Due.due(1, y.shapeOf(5, 0, 4));
        TwoShapes z = Tables.dropped();
        Due.due(5, z.writeOld(3, 45, 7, 1));
        Due.due(6, z.writeNew(5, 60, 2));
        Due.due(457, z.shapeOf(3, 1, 2));
        Due.due(2, z.read(5, 1, 1));
        Due.due(0, z.count(3));
    }

    private static void queueLimit() {
        TwoShapes[] tables = {Tables.both(), Tables.turned()};
        for (TwoShapes x : tables) {
            for (int i = 0; i < 8; i++) {
                Due.due(5 + i, x.writeOld(i, i, i, 0));
            }
            int states = x.count(11);
            Due.due(FULL, x.writeOld(3, 1, 1, 1));
            Due.due(FULL, x.writeNew(3, 1, 1));
            Due.due(BAD, x.writeNew(3, 1, 4));
            Due.due(12, x.count(1));
            Due.due(8, x.count(3));
            Due.due(states, x.count(11));
            Due.due(3, x.read(3, 0, 0));
            x.drain(1);
            Due.due(13, x.writeNew(3, 1, 1));
        }
        TwoShapes old = new TwoShapes();
        for (int i = 1; i <= 20; i++) {
            Due.due("there is no queue in the phase 0", i, old.writeOld(1, i, 0, 0));
        }
    }

    private static void removal() {
        TwoShapes x = Tables.old();
        Due.due(BAD, x.remove(-1));
        Due.due(BAD, x.remove(31));
        Due.due(NO, x.remove(0));
        Due.due(NO, x.remove(7));
        Due.due(5, x.remove(3));
        Due.due(5, x.shapeOf(3, 0, 0));
        Due.due(0, x.shapeOf(3, 0, 1));
        TwoShapes y = Tables.both();
        Due.due("by the old shape, which is first", 5, y.remove(3));
        y.drain(1);
        Due.due("the new shape knows of the removal", 1, y.count(7));
        Due.due(5, y.shapeOf(3, 1, 0));
        Due.due(0, y.shapeOf(3, 1, 1));
        TwoShapes z = Tables.turned();
        z.writeNew(8, 1, 1);
        Due.due("by the new shape, which is first", 6, z.remove(8));
        Due.due(NO, z.remove(8));
        z.drain(8);
        Due.due(6, z.shapeOf(8, 0, 0));
        TwoShapes w = Tables.dropped();
        Due.due(5, w.remove(5));
        Due.due(NO, w.remove(5));
    }

    private static void removalWhenFull() {
        TwoShapes x = Tables.both();
        for (int i = 0; i < 8; i++) {
            x.writeOld(0, i, 0, 0);
        }
        Due.due(FULL, x.remove(0));
        Due.due("rather not possible than the limit", NO, x.remove(1));
        Due.due(1, x.shapeOf(0, 0, 1));
    }

    private static void drain() {
        TwoShapes x = Tables.both();
        Due.due(BAD, x.drain(0));
        Due.due(BAD, x.drain(9));
        Due.due(BAD, x.drain(Integer.MIN_VALUE));
        Due.due(NO, x.drain(1));
        Due.due(NO, new TwoShapes().drain(8));
        for (int i = 0; i < 5; i++) {
            x.writeOld(i, i, i, 1);
        }
        Due.due(3, x.drain(2));
        Due.due(2, x.count(7));
        Due.due(6, x.shapeOf(1, 1, 0));
        Due.due(0, x.shapeOf(2, 1, 0));
        Due.due("in order", 2, x.queued(0, 0));
        Due.due(4, x.queued(2, 0));
        Due.due(9, x.queued(2, 1));
        Due.due(NONE, x.queued(3, 0));
        Due.due("fewer if there are fewer", 0, x.drain(8));
        Due.due(5, x.count(7));
        for (int i = 0; i < 5; i++) {
            Due.due(11 * i, x.shapeOf(i, 1, 2));
            Due.due(5 + i, x.shapeOf(i, 1, 0));
        }
        Due.due(NO, x.drain(8));
    }

    private static void drainLeavesNewer() {
        TwoShapes x = Tables.both();
        x.writeNew(3, 100, 2);
        x.writeNew(3, 200, 3);
        Due.due(2, x.backfill(6));
        Due.due("backfilled with the newest", 6, x.shapeOf(3, 1, 0));
        Due.due(1, x.shapeOf(3, 1, 3));
        Due.due(1, x.drain(1));
        Due.due("an older write does nothing", 200, x.shapeOf(3, 1, 2));
        Due.due(0, x.drain(1));
        Due.due("one of the same version comes", 3, x.shapeOf(3, 1, 3));
    }

    private static void backfill() {
        TwoShapes x = Tables.both();
        Due.due(BAD, x.backfill(0));
        Due.due(BAD, x.backfill(32));
        Due.due(BAD, x.backfill(-1));
        Due.due(0, x.backfill(3));
        Due.due(3, x.count(2));
        Due.due(1, x.backfill(1));
        Due.due(4, x.count(2));
        Due.due(1, x.shapeOf(3, 1, 0));
        Due.due(123, x.shapeOf(3, 1, 2));
        Due.due(1, x.shapeOf(3, 1, 3));
        Due.due("fewer if there are fewer", 2, x.backfill(31));
        Due.due(31, x.count(2));
        Due.due("it is done", NO, x.backfill(1));
        Due.due(BAD, x.backfill(32));
        Due.due(NO, Tables.old().backfill(1));
        Due.due(NO, Tables.turned().backfill(1));
        Due.due(NO, Tables.dropped().backfill(1));
        TwoShapes y = new TwoShapes();
        y.writeOld(30, 1, 1, 1);
        y.begin();
        Due.due(0, y.backfill(30));
        Due.due(1, y.backfill(1));
        Due.due(31, y.count(2));
    }

    private static void backfillTakesOnlyOlder() {
        TwoShapes x = Tables.both();
        x.writeNew(3, 321, 3);
        x.drain(1);
        x.writeNew(5, 50, 2);
        x.drain(1);
        x.writeNew(5, 51, 2);
        x.crash();
        Due.due("3 is there, 5 is older, 7 is missing", 2, x.backfill(31));
        Due.due(3, x.shapeOf(3, 1, 3));
        Due.due(51, x.shapeOf(5, 1, 2));
        Due.due(1, x.shapeOf(5, 1, 3));
        Due.due(7, x.shapeOf(5, 1, 0));
    }

    private static void backfillGivesRemovals() {
        TwoShapes x = Tables.both();
        Due.due(3, x.backfill(8));
        Due.due(4, x.shapeOf(7, 1, 0));
        Due.due(0, x.shapeOf(7, 1, 1));
        Due.due(3, x.count(7));
        Due.due(2, x.count(5));
    }

    private static void crash() {
        Due.due(NO, new TwoShapes().crash());
        Due.due(NO, Tables.both().crash());
        TwoShapes x = Tables.both();
        x.writeOld(1, 1, 1, 1);
        x.writeOld(2, 1, 1, 1);
        Due.due(2, x.crash());
        Due.due(0, x.count(3));
        Due.due(2, x.count(9));
        Due.due(NO, x.crash());
        x.remove(3);
        Due.due(1, x.crash());
        Due.due(3, x.count(9));
        Due.due("versions go on", 8, x.writeOld(1, 1, 1, 1));
    }

    private static void mendToNew() {
        TwoShapes x = Tables.both();
        Due.due(1, x.mend(3));
        Due.due(1, x.shapeOf(3, 1, 0));
        Due.due(123, x.shapeOf(3, 1, 2));
        Due.due(0, x.mend(3));
        Due.due("of which neither knows", 0, x.mend(0));
        Due.due("the highest key", 0, x.mend(30));
        Due.due("a removal", 1, x.mend(7));
        Due.due(4, x.shapeOf(7, 1, 0));
        Due.due(0, x.shapeOf(7, 1, 1));
        x.writeNew(3, 400, 3);
        x.crash();
        Due.due(1, x.mend(3));
        Due.due("made over from the old row", 1, x.shapeOf(3, 1, 3));
        Due.due(5, x.shapeOf(3, 1, 0));
    }

    private static void mendToOld() {
        TwoShapes x = Tables.turned();
        x.writeNew(3, 444, 3);
        x.crash();
        Due.due(1, x.mend(3));
        Due.due(5, x.shapeOf(3, 0, 0));
        Due.due(44, x.shapeOf(3, 0, 2));
        Due.due(1, x.shapeOf(3, 0, 4));
        Due.due("which stays", 3, x.shapeOf(3, 1, 3));
        x.writeNew(9, 555, 2);
        x.remove(5);
        x.crash();
        x.back();
        Due.due("in the phase 1, too", 1, x.mend(9));
        Due.due(6, x.shapeOf(9, 0, 0));
        Due.due(2, x.shapeOf(9, 1, 3));
        Due.due(1, x.mend(5));
        Due.due(7, x.shapeOf(5, 0, 0));
        Due.due(0, x.shapeOf(5, 0, 1));
        Due.due(0, x.check());
    }

    private static void mendNotPossible() {
        TwoShapes x = Tables.both();
        Due.due(BAD, x.mend(-1));
        Due.due(BAD, x.mend(31));
        Due.due(NO, Tables.old().mend(3));
        Due.due(NO, Tables.dropped().mend(3));
        Due.due(BAD, Tables.dropped().mend(31));
        x.writeOld(4, 1, 1, 1);
        x.writeOld(3, 1, 1, 1);
        x.writeOld(5, 1, 1, 1);
        Due.due(NO, x.mend(3));
        Due.due(NO, x.mend(4));
        Due.due(NO, x.mend(5));
        Due.due("another key", 1, x.mend(7));
        x.drain(1);
        Due.due(0, x.mend(4));
        Due.due(NO, x.mend(3));
    }

    /**
     * "LIMIT_REACHED if ... the version would be above 100000": no object can come there in the 512
     * calls for which it is used, so this looks beyond them.
     */
    private static void versionLimit() {
        TwoShapes x = new TwoShapes();
        for (int version = 1; version < 100000; version++) {
            if (version != x.writeOld(3, version % 100, 0, 0)) {
                Due.due("a version", version, x.count(1));
            }
        }
        Due.due(100000, x.writeNew(5, 123, 3));
        Due.due(FULL, x.writeOld(3, 1, 1, 1));
        Due.due(FULL, x.writeNew(3, 1, 1));
        Due.due(FULL, x.remove(3));
        Due.due("rather not possible than the limit", NO, x.remove(0));
        Due.due("rather a bad argument than the limit", BAD, x.writeOld(31, 1, 1, 1));
        Due.due(100000, x.count(1));
        Due.due(4, x.count(11));
        Due.due(3, Tables.withText(x, "x3;").fault(1));
        Due.due("all but writes goes on", 2, x.begin());
        Due.due(FULL, x.writeOld(3, 1, 1, 1));
        Due.due(2, x.backfill(31));
        Due.due(2, x.turn());
        Due.due(3, x.undo());
        x.undo();
        x.undo();
        Due.due(0, x.undo());
        Due.due("the last version is free again", 100000, x.remove(3));
        Due.due(FULL, x.writeOld(3, 1, 1, 1));
    }
}
