/** Promises 20 to 23: walk, step, count, undo, and what the history records. */
final class WalksTest {
    private static final int BAD = TwoShapes.INVALID_ARGUMENT;
    private static final int NO = TwoShapes.NOT_POSSIBLE;

    public static void main(String[] args) {
        walk();
        step();
        stepSeesWhatIsThen();
        stepInCostume();
        count();
        undoEachChange();
        undoFullQueue();
        undoLimit();
        undoLeavesText();
        noChangeIsNotRecorded();
        Due.end();
    }

    private static void walk() {
        TwoShapes x = Tables.old();
        Due.due(BAD, x.walk(-1, 0));
        Due.due(BAD, x.walk(3, 0));
        Due.due(BAD, x.walk(0, -1));
        Due.due(BAD, x.walk(0, 2));
        Due.due(0, x.count(10));
        Due.due(2, x.walk(0, 0));
        Due.due(2, x.walk(2, 1));
        Due.due(5, x.count(10));
        Due.due(3, x.step(0));
        Due.due("in place of the one that is there", 2, x.walk(0, 1));
        Due.due(3, x.step(0));
        Due.due(0, new TwoShapes().walk(1, 1));
    }

    private static void step() {
        TwoShapes x = Tables.old();
        x.writeOld(0, 1, 1, 1);
        x.writeOld(30, 1, 1, 1);
        Due.due(BAD, x.step(-1));
        Due.due(BAD, x.step(3));
        Due.due(NO, x.step(0));
        x.walk(1, 0);
        Due.due(NO, x.step(0));
        Due.due(NO, x.step(2));
        int[] due = {0, 3, 5, 30};
        for (int key : due) {
            Due.due(key, x.step(1));
        }
        Due.due(2, x.count(10));
        Due.due(31, x.step(1));
        Due.due(0, x.count(10));
        Due.due(NO, x.step(1));
        x.walk(1, 0);
        Due.due(0, x.step(1));
    }

    private static void stepSeesWhatIsThen() {
        TwoShapes x = Tables.old();
        x.walk(0, 0);
        Due.due(3, x.step(0));
        x.writeOld(2, 1, 1, 1);
        x.writeOld(4, 1, 1, 1);
        x.remove(5);
        Due.due(4, x.step(0));
        x.remove(4);
        x.writeOld(4, 2, 2, 1);
        x.writeOld(7, 1, 1, 1);
        Due.due(7, x.step(0));
        Due.due(31, x.step(0));
    }

    private static void stepInCostume() {
        TwoShapes x = Tables.turned();
        x.writeNew(4, 1, 1);
        x.remove(3);
        x.crash();
        Due.due(2, x.walk(0, 0));
        Due.due(2, x.walk(1, 1));
        Due.due(3, x.step(0));
        Due.due(4, x.step(1));
        Due.due(5, x.step(0));
        Due.due(5, x.step(1));
        Due.due(31, x.step(1));
        Due.due(1, x.count(10));
    }

    private static void counts(TwoShapes x, int... due) {
        for (int what = 0; what < due.length; what++) {
            Due.due("count(" + what + ")", due[what], x.count(what));
        }
    }

    private static void count() {
        int none = TwoShapes.NOT_FOUND;
        Due.due(BAD, new TwoShapes().count(-1));
        Due.due(BAD, new TwoShapes().count(13));
        counts(Tables.old(), 0, 4, none, 0, 2, 0, 0, 0, 0, 0, 0, 4, 0);
        counts(Tables.both(), 1, 4, 0, 0, 2, 0, 0, 0, 0, 0, 0, 4, 0);
        counts(Tables.ready(), 1, 4, 31, 0, 2, 2, 0, 3, 1, 0, 0, 4, 0);
        TwoShapes x = Tables.turned();
        x.writeNew(30, 1, 3);
        x.walk(2, 0);
        x.type('x');
        counts(x, 2, 5, none, 1, 2, 3, 1, 4, 0, 0, 4, 4, 1);
        x.crash();
        counts(x, 2, 5, none, 0, 2, 3, 1, 4, 0, 1, 4, 4, 1);
        counts(Tables.dropped(), 3, 4, none, 0, 0, 2, 0, 3, 0, 0, 0, 4, 0);
        TwoShapes y = Tables.turned();
        y.writeNew(0, 1, 2);
        y.drain(1);
        counts(y, 2, 5, none, 0, 3, 3, 1, 4, 0, 0, 0, 4, 0);
    }

    private static void undoEachChange() {
        TwoShapes x = Tables.both();
        Due.due(5, x.writeNew(3, 500, 3));
        Due.due(0, x.drain(1));
        Due.due(3, x.undo());
        Due.due(1, x.count(3));
        Due.due(0, x.shapeOf(3, 1, 0));
        Due.due(3, x.queued(0, 0));
        Due.due(2, x.undo());
        Due.due(0, x.count(3));
        Due.due(4, x.count(1));
        Due.due(12, x.shapeOf(3, 0, 2));
        Due.due("the version is free again", 5, x.writeOld(9, 1, 1, 1));
        Due.due(1, x.crash());
        x.undo();
        Due.due(0, x.count(9));
        Due.due(1, x.count(3));
        x.backfill(4);
        x.undo();
        Due.due(0, x.count(2));
        Due.due(0, x.count(7));
        x.walk(0, 0);
        x.step(0);
        x.undo();
        Due.due(3, x.step(0));
        x.undo();
        x.undo();
        Due.due(0, x.count(10));
        x.mend(3);
        x.undo();
        Due.due(0, x.count(7));
        TwoShapes y = Tables.ready();
        y.turn();
        y.undo();
        Due.due(1, y.count(0));
        Due.due(31, y.count(2));
        y.back();
        y.undo();
        Due.due(2, y.count(5));
        TwoShapes z = Tables.dropped();
        z.undo();
        Due.due(2, z.count(0));
        Due.due(2, z.count(4));
    }

    private static void undoFullQueue() {
        TwoShapes x = Tables.both();
        for (int i = 0; i < 8; i++) {
            x.writeOld(i, i, i, 1);
        }
        x.crash();
        x.undo();
        x.walk(0, 0);
        for (int i = 0; i < 8; i++) {
            Due.due(i, x.queued(i, 0));
            Due.due(5 + i, x.queued(i, 1));
            Due.due(0, x.queued(i, 3));
        }
        x.drain(8);
        Due.due(77, x.shapeOf(7, 1, 2));
    }

    private static void undoLimit() {
        TwoShapes x = new TwoShapes();
        Due.due(NO, x.undo());
        for (int i = 1; i <= 6; i++) {
            x.writeOld(1, i, 0, 0);
            Due.due(Math.min(i, 4), x.count(11));
        }
        for (int i = 3; i >= 0; i--) {
            Due.due(i, x.undo());
            Due.due(i + 2, x.read(1, 0, 0));
        }
        Due.due(NO, x.undo());
        Due.due(2, x.read(1, 0, 0));
        x.writeOld(1, 50, 0, 0);
        x.writeOld(1, 60, 0, 0);
        Due.due(1, x.undo());
        Due.due(50, x.read(1, 0, 0));
        Due.due(4, x.writeOld(1, 70, 0, 0));
        Due.due(1, x.undo());
        Due.due(0, x.undo());
        Due.due(2, x.read(1, 0, 0));
    }

    private static void undoLeavesText() {
        TwoShapes x = new TwoShapes();
        x.type('t');
        x.writeOld(1, 1, 1, 1);
        x.type(';');
        Due.due(0, x.undo());
        Due.due(2, x.count(12));
        x.clearText();
        Due.due("texts are no changes", 0, x.count(11));
    }

    private static void noChangeIsNotRecorded() {
        TwoShapes x = Tables.both();
        while (x.count(11) > 0) {
            x.undo();
        }
        x.turn();
        x.back();
        x.drop();
        x.drain(1);
        x.crash();
        x.remove(0);
        x.mend(31);
        x.backfill(0);
        x.walk(0, 2);
        x.step(0);
        x.fault(0);
        x.check();
        x.quarrel();
        x.keys(0);
        Due.due(0, x.count(11));
        Tables.type(x, "t;");
        Due.due(NO, x.play());
        Due.due(0, x.count(11));
        x.begin();
        Due.due(0, x.mend(0));
        Due.due("also a change if it did nothing", 2, x.count(11));
        Due.due(0, x.backfill(1));
        Due.due(3, x.count(11));
        x.walk(0, 0);
        x.undo();
        x.undo();
        x.undo();
        x.walk(0, 0);
        x.step(0);
        Due.due("the last step of a walk is one, too", 3, x.count(11));
    }
}
