/** Promises 13 to 19: read, shapeOf, queued, keys, check, quarrel, atRisk. */
final class ReadingTest {
    private static final int BAD = TwoShapes.INVALID_ARGUMENT;
    private static final int NO = TwoShapes.NOT_POSSIBLE;
    private static final int NONE = TwoShapes.NOT_FOUND;

    public static void main(String[] args) {
        readArguments();
        readInEachPhase();
        readFromQueue();
        readWhatIsNotBackfilled();
        shapeOf();
        queued();
        keys();
        check();
        quarrel();
        atRisk();
        atRiskOfWhatIsGone();
        Due.end();
    }

    private static void row(TwoShapes x, int key, int a, int b, int c, int u, int v) {
        Due.due("a of " + key, a, x.read(key, 0, 0));
        Due.due("b of " + key, b, x.read(key, 0, 1));
        Due.due("c of " + key, c, x.read(key, 0, 2));
        Due.due("u of " + key, u, x.read(key, 1, 0));
        Due.due("v of " + key, v, x.read(key, 1, 1));
    }

    private static void readArguments() {
        TwoShapes x = Tables.old();
        int[][] wrong = {{-1, 0, 0}, {31, 0, 0}, {3, -1, 0}, {3, 2, 0}, {3, 0, -1}, {3, 0, 3}, {3, 1, -1},
            {3, 1, 2}, {0, 1, 2}, {Integer.MAX_VALUE, 0, 0}, {3, Integer.MIN_VALUE, 0}};
        for (int[] w : wrong) {
            Due.due(BAD, x.read(w[0], w[1], w[2]));
        }
        Due.due(NONE, x.read(0, 0, 2));
        Due.due("removed", NONE, x.read(7, 1, 1));
        Due.due(NONE, x.read(30, 1, 0));
    }

    private static void readInEachPhase() {
        TwoShapes[] tables = {Tables.old(), Tables.both(), Tables.ready(), Tables.turned(), Tables.dropped()};
        for (TwoShapes x : tables) {
            row(x, 3, 12, 3, 1, 123, 1);
            row(x, 5, 4, 5, 0, 45, 0);
            row(x, 7, NONE, NONE, NONE, NONE, NONE);
        }
        TwoShapes x = Tables.dropped();
        x.writeNew(3, 999, 3);
        row(x, 3, 99, 9, 1, 999, 3);
    }

    private static void readFromQueue() {
        TwoShapes x = Tables.ready();
        x.writeNew(3, 100, 2);
        x.writeOld(4, 77, 7, 0);
        x.writeNew(3, 207, 3);
        row(x, 3, 20, 7, 1, 207, 3);
        row(x, 4, 77, 7, 0, 777, 0);
        x.remove(3);
        row(x, 3, NONE, NONE, NONE, NONE, NONE);
        x.crash();
        Due.due("lost for the new shape alone", 123, x.read(3, 1, 0));
        Due.due(NONE, x.read(3, 0, 0));
        TwoShapes y = Tables.turned();
        y.writeNew(3, 207, 3);
        y.writeOld(0, 1, 2, 1);
        y.remove(5);
        row(y, 3, 20, 7, 1, 207, 3);
        row(y, 0, 1, 2, 1, 12, 1);
        row(y, 5, NONE, NONE, NONE, NONE, NONE);
        y.crash();
        row(y, 3, 12, 3, 1, 207, 3);
        row(y, 5, 4, 5, 0, NONE, NONE);
        row(y, 0, NONE, NONE, NONE, 12, 1);
    }

    private static void readWhatIsNotBackfilled() {
        TwoShapes x = Tables.both();
        x.remove(3);
        x.writeNew(6, 61, 2);
        x.crash();
        row(x, 3, NONE, NONE, NONE, NONE, NONE);
        row(x, 6, 6, 1, 1, 61, 1);
        x.writeNew(6, 62, 3);
        x.drain(1);
        x.remove(6);
        x.drain(1);
        x.writeOld(6, 1, 1, 1);
        x.crash();
        Due.due("the new shape knows that it is removed", NONE, x.read(6, 1, 0));
        Due.due(1, x.read(6, 0, 0));
    }

    private static void shapeOf() {
        TwoShapes x = Tables.ready();
        int[][] wrong = {{-1, 0, 0}, {31, 0, 0}, {3, -1, 0}, {3, 2, 0}, {3, 0, -1}, {3, 0, 5}, {3, 1, 5}};
        for (int[] w : wrong) {
            Due.due(BAD, x.shapeOf(w[0], w[1], w[2]));
        }
        int[][] due = {{3, 0, 1, 1, 12, 3, 1}, {3, 1, 1, 1, 123, 1, NONE}, {7, 0, 4, 0, NONE, NONE, NONE},
            {7, 1, 4, 0, NONE, NONE, NONE}, {0, 0, 0, 0, NONE, NONE, NONE}, {0, 1, 0, 0, NONE, NONE, NONE}};
        for (int[] d : due) {
            for (int what = 0; what < 5; what++) {
                Due.due("what " + what, d[2 + what], x.shapeOf(d[0], d[1], what));
            }
        }
        x.writeNew(3, 500, 3);
        Due.due("without the queue", 123, x.shapeOf(3, 1, 2));
        Due.due(50, x.shapeOf(3, 0, 2));
        for (int what = 0; what < 5; what++) {
            Due.due(NO, Tables.old().shapeOf(3, 1, what));
            Due.due(NO, Tables.dropped().shapeOf(3, 0, what));
        }
        Due.due(BAD, Tables.old().shapeOf(3, 1, 5));
        Due.due(BAD, Tables.old().shapeOf(31, 1, 0));
    }

    private static void queued() {
        TwoShapes x = Tables.both();
        Due.due(BAD, x.queued(-1, 0));
        Due.due(BAD, x.queued(Integer.MIN_VALUE, 0));
        Due.due(BAD, x.queued(0, -1));
        Due.due(BAD, x.queued(0, 4));
        Due.due(BAD, x.queued(100, 4));
        Due.due(NONE, x.queued(0, 0));
        x.writeOld(10, 0, 0, 0);
        x.remove(3);
        int[][] due = {{10, 5, 1, 0}, {3, 6, 1, 1}};
        for (int i = 0; i < 2; i++) {
            for (int what = 0; what < 4; what++) {
                Due.due(due[i][what], x.queued(i, what));
            }
        }
        Due.due(NONE, x.queued(2, 3));
        Due.due(NONE, x.queued(8, 0));
        Due.due(NONE, x.queued(Integer.MAX_VALUE, 0));
        TwoShapes y = Tables.turned();
        y.writeOld(10, 0, 0, 0);
        Due.due("to the old shape", 0, y.queued(0, 2));
        Due.due(NONE, Tables.dropped().queued(0, 0));
    }

    private static void keys() {
        TwoShapes x = Tables.old();
        Due.due(BAD, x.keys(-1));
        Due.due(BAD, x.keys(2));
        Due.due(40, x.keys(0));
        Due.due(40, x.keys(1));
        x.writeOld(0, 0, 0, 0);
        x.writeOld(30, 0, 0, 0);
        Due.due(1 << 30 | 41, x.keys(0));
        TwoShapes y = Tables.turned();
        y.writeNew(1, 1, 1);
        y.remove(3);
        Due.due(34, y.keys(0));
        Due.due(34, y.keys(1));
        y.crash();
        Due.due(40, y.keys(0));
        Due.due(34, y.keys(1));
        Due.due(40, Tables.dropped().keys(0));
    }

    private static void check() {
        Due.due(NO, Tables.old().check());
        Due.due(NO, Tables.dropped().check());
        TwoShapes x = Tables.both();
        Due.due("removed ones, too", 8 + 32 + 128, x.check());
        x.backfill(31);
        Due.due(0, x.check());
        x.writeNew(30, 999, 3);
        x.writeOld(0, 1, 1, 1);
        Due.due("without the queue", 1 << 30 | 1, x.check());
        x.drain(1);
        Due.due("a strange row does not differ", 1, x.check());
        x.drain(1);
        x.writeOld(3, 12, 3, 1);
        x.crash();
        Due.due("the same row of another version differs", 8, x.check());
        TwoShapes y = Tables.turned();
        Due.due(0, y.check());
        y.remove(5);
        Due.due(32, y.check());
    }

    private static void quarrel() {
        TwoShapes[] calm = {new TwoShapes(), Tables.old(), Tables.both(), Tables.ready(), Tables.turned(), Tables.dropped()};
        for (TwoShapes x : calm) {
            Due.due(0, x.quarrel());
            x.writeNew(30, 999, 3);
            x.writeNew(0, 555, 2);
            Due.due("a strange row is no quarrel", 0, x.quarrel());
        }
        TwoShapes x = Tables.turned();
        x.remove(3);
        x.writeNew(5, 45, 0);
        x.writeNew(6, 1, 1);
        x.writeNew(30, 1, 1);
        Due.due(0, x.quarrel());
        x.crash();
        Due.due("5 reads alike", 1 << 30 | 8 | 64, x.quarrel());
        x.writeNew(5, 45, 3);
        x.crash();
        Due.due("c differs", 1 << 30 | 8 | 32 | 64, x.quarrel());
        x.writeOld(0, 1, 1, 1);
        x.crash();
        Due.due("the lowest key, too", 1 << 30 | 1 | 8 | 32 | 64, x.quarrel());
    }

    private static void atRisk() {
        Due.due(0, new TwoShapes().atRisk());
        Due.due(0, Tables.old().atRisk());
        Due.due(NO, Tables.dropped().atRisk());
        TwoShapes x = Tables.both();
        x.writeOld(30, 1, 1, 1);
        Due.due(0, x.atRisk());
        x.crash();
        Due.due("the old shape has it", 0, x.atRisk());
        TwoShapes y = Tables.turned();
        Due.due(0, y.atRisk());
        y.writeNew(30, 1, 1);
        y.remove(3);
        y.writeOld(0, 1, 1, 1);
        Due.due(1 << 30 | 1 | 8, y.atRisk());
        y.undo();
        Due.due(1 << 30 | 8, y.atRisk());
        y.drain(1);
        Due.due(8, y.atRisk());
        y.crash();
        Due.due(8, y.atRisk());
        y.back();
        Due.due(8, y.atRisk());
        y.mend(3);
        Due.due(0, y.atRisk());
    }

    private static void atRiskOfWhatIsGone() {
        TwoShapes x = Tables.turned();
        x.writeNew(3, 1, 1);
        x.crash();
        x.back();
        x.back();
        Due.due("the version written last is lost", 8, x.atRisk());
        x.begin();
        Due.due(8, x.atRisk());
        x.mend(3);
        Due.due(8, x.atRisk());
        x.writeOld(3, 1, 1, 1);
        Due.due(0, x.atRisk());
        x.undo();
        Due.due("undone, too", 8, x.atRisk());
    }
}
