/** Promises 1 to 5: a new object, begin, turn, back, drop. */
final class PhasesTest {
    private static final int NO = TwoShapes.NOT_POSSIBLE;

    public static void main(String[] args) {
        newObject();
        begin();
        beginElsewhere();
        turn();
        turnNotReady();
        back();
        backNotPossible();
        backKeepsWhatDiffers();
        drop();
        dropNotPossible();
        whatStaysThroughPhases();
        Due.end();
    }

    private static void newObject() {
        TwoShapes x = new TwoShapes();
        int[] counts = {0, 0, TwoShapes.NOT_FOUND, 0, 0, 0, 0, 0, 0, 0, 0, 0, 0};
        for (int what = 0; what < counts.length; what++) {
            Due.due("count(" + what + ")", counts[what], x.count(what));
        }
        for (int key = 0; key < 31; key++) {
            Due.due(0, x.shapeOf(key, 0, 0));
            Due.due(0, x.shapeOf(key, 0, 1));
            Due.due(NO, x.shapeOf(key, 1, 0));
            Due.due(TwoShapes.NOT_FOUND, x.read(key, 0, 0));
            Due.due(TwoShapes.NOT_FOUND, x.read(key, 1, 0));
        }
        Due.due(NO, x.undo());
        x.writeOld(0, 1, 1, 1);
        Due.due("objects share nothing", 0, new TwoShapes().keys(0));
    }

    private static void begin() {
        TwoShapes x = Tables.old();
        Due.due(2, x.begin());
        Due.due(1, x.count(0));
        Due.due(0, x.count(2));
        Due.due(0, x.count(7));
        Due.due(0, new TwoShapes().begin());
    }

    private static void beginElsewhere() {
        Due.due(NO, Tables.both().begin());
        Due.due(NO, Tables.turned().begin());
        Due.due(NO, Tables.dropped().begin());
        TwoShapes x = Tables.ready();
        Due.due(NO, x.begin());
        Due.due("an error changes nothing", 31, x.count(2));
        Due.due(0, x.back());
        Due.due(2, x.begin());
        Due.due("the pointer begins anew", 0, x.count(2));
        Due.due("the new shape begins anew", 0, x.count(7));
    }

    private static void turn() {
        TwoShapes x = Tables.ready();
        Due.due(1, x.count(8));
        Due.due(2, x.turn());
        Due.due(2, x.count(0));
        Due.due(TwoShapes.NOT_FOUND, x.count(2));
        Due.due(0, x.count(8));
    }

    private static void turnNotReady() {
        Due.due(NO, new TwoShapes().turn());
        Due.due(NO, Tables.turned().turn());
        Due.due(NO, Tables.dropped().turn());
        TwoShapes x = Tables.both();
        Due.due(2, x.backfill(7));
        Due.due(1, x.backfill(23));
        Due.due("the pointer is 30", 30, x.count(2));
        Due.due(0, x.check());
        Due.due(0, x.count(8));
        Due.due(NO, x.turn());
        x.backfill(1);
        x.writeOld(3, 1, 1, 1);
        Due.due("a write is in the queue", NO, x.turn());
        x.crash();
        Due.due("a key differs", NO, x.turn());
        Due.due(0, x.count(8));
        x.mend(3);
        Due.due(2, x.turn());
    }

    private static void back() {
        TwoShapes x = Tables.turned();
        Due.due(1, x.back());
        Due.due(1, x.count(0));
        Due.due(31, x.count(2));
        Due.due(2, x.count(5));
        Due.due(0, x.back());
        Due.due(0, x.count(0));
        Due.due(0, x.count(5));
        Due.due(0, x.count(7));
        Due.due(NO, x.shapeOf(3, 1, 0));
        Due.due(2, x.count(4));
        Due.due("before backfilling is done", 0, Tables.both().back());
    }

    private static void backNotPossible() {
        Due.due(NO, new TwoShapes().back());
        Due.due(NO, Tables.dropped().back());
        TwoShapes x = Tables.both();
        x.writeOld(1, 1, 1, 1);
        Due.due(NO, x.back());
        x.drain(1);
        Due.due(0, x.back());
        TwoShapes y = Tables.turned();
        y.remove(3);
        Due.due(NO, y.back());
        y.crash();
        Due.due(1, y.back());
    }

    private static void backKeepsWhatDiffers() {
        TwoShapes x = Tables.turned();
        x.writeNew(9, 321, 3);
        x.crash();
        Due.due(1, x.back());
        Due.due(1 << 9, x.check());
        Due.due(5, x.shapeOf(9, 1, 0));
        Due.due(0, x.shapeOf(9, 0, 0));
        Due.due("the old shape is first", NO, x.remove(9));
        Due.due(0, x.back());
        Due.due(TwoShapes.NOT_FOUND, x.read(9, 1, 0));
    }

    private static void drop() {
        TwoShapes x = Tables.turned();
        x.writeNew(20, 7, 2);
        x.writeNew(21, 8, 3);
        x.writeNew(22, 9, 1);
        x.drain(8);
        Due.due(2, x.drop());
        Due.due(3, x.count(0));
        Due.due(0, x.count(4));
        Due.due(NO, x.shapeOf(3, 0, 0));
        Due.due("read in the new shape, made over", 12, x.read(3, 0, 0));
        Due.due(0, Tables.turned().drop());
    }

    private static void dropNotPossible() {
        Due.due(NO, new TwoShapes().drop());
        Due.due(NO, Tables.ready().drop());
        Due.due(NO, Tables.dropped().drop());
        TwoShapes x = Tables.turned();
        x.writeNew(20, 7, 2);
        Due.due("a write is in the queue", NO, x.drop());
        x.crash();
        Due.due("a key differs", NO, x.drop());
        Due.due(2, x.count(0));
        x.mend(20);
        Due.due(1, x.drop());
    }

    /** The walks, the lost writes, the versions and the text are of no phase. */
    private static void whatStaysThroughPhases() {
        TwoShapes x = Tables.ready();
        x.writeOld(3, 12, 3, 1);
        x.crash();
        x.mend(3);
        x.walk(1, 1);
        x.step(1);
        x.walk(2, 0);
        Tables.type(x, "t;");
        for (String call : new String[] {"back", "begin", "backfill 31", "turn", "back", "turn", "drop"}) {
            Due.due(call + " is possible", 1, Call.of(call).on(x) >= 0 ? 1 : 0);
            Due.due("the version, behind " + call, 5, x.count(1));
            Due.due("the lost writes, behind " + call, 1, x.count(9));
            Due.due("the walks, behind " + call, 6, x.count(10));
            Due.due("the history, behind " + call, 4, x.count(11));
            Due.due("the text, behind " + call, 2, x.count(12));
        }
        Due.due("the walk goes on", 5, x.step(1));
        Due.due(3, x.step(2));
    }
}
