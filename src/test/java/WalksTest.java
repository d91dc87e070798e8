/** Promises 20 to 22: walk, step, count. */
final class WalksTest {
    private static final int BAD = TwoShapes.INVALID_ARGUMENT;
    private static final int NO = TwoShapes.NOT_POSSIBLE;

    public static void main(String[] args) {
        walk();
        step();
        stepSeesWhatIsThen();
        stepInCostume();
        count();
        Due.end();
    }

    private static void walk() {
        TwoShapes x = Tables.old();
        Due.due(BAD, x.walk(-1, 0));
        Due.due(BAD, x.walk(3, 0));
        Due.due(BAD, x.walk(0, -1));
        Due.due(BAD, x.walk(0, 2));
        Due.due(0, x.count(10));
        Due.due(2, x.walk(0, 0));
        Due.due(2, x.walk(2, 1));
        Due.due(5, x.count(10));
        Due.due(3, x.step(0));
        Due.due("in place of the one that is there", 2, x.walk(0, 1));
        Due.due(3, x.step(0));
        Due.due(0, new TwoShapes().walk(1, 1));
    }

    private static void step() {
        TwoShapes x = Tables.old();
        x.writeOld(0, 1, 1, 1);
        x.writeOld(30, 1, 1, 1);
        Due.due(BAD, x.step(-1));
        Due.due(BAD, x.step(3));
        Due.due(NO, x.step(0));
        x.walk(1, 0);
        Due.due(NO, x.step(0));
        Due.due(NO, x.step(2));
        int[] due = {0, 3, 5, 30};
        for (int key : due) {
            Due.due(key, x.step(1));
        }
        Due.due(2, x.count(10));
        Due.due(31, x.step(1));
        Due.due(0, x.count(10));
        Due.due(NO, x.step(1));
        x.walk(1, 0);
        Due.due(0, x.step(1));
    }

    private static void stepSeesWhatIsThen() {
        TwoShapes x = Tables.old();
        x.walk(0, 0);
        Due.due(3, x.step(0));
        x.writeOld(2, 1, 1, 1);
        x.writeOld(4, 1, 1, 1);
        x.remove(5);
        Due.due(4, x.step(0));
        x.remove(4);
        x.writeOld(4, 2, 2, 1);
        x.writeOld(7, 1, 1, 1);
        Due.due(7, x.step(0));
        Due.due(31, x.step(0));
    }

    private static void stepInCostume() {
        TwoShapes x = Tables.turned();
        x.writeNew(4, 1, 1);
        x.remove(3);
        x.crash();
        Due.due(2, x.walk(0, 0));
        Due.due(2, x.walk(1, 1));
        Due.due(3, x.step(0));
        Due.due(4, x.step(1));
        Due.due(5, x.step(0));
        Due.due(5, x.step(1));
        Due.due(31, x.step(1));
        Due.due(1, x.count(10));
    }

    private static void counts(TwoShapes x, int... due) {
        for (int what = 0; what < due.length; what++) {
            Due.due("count(" + what + ")", due[what], x.count(what));
        }
    }

    private static void count() {
        int none = TwoShapes.NOT_FOUND;
        Due.due(BAD, new TwoShapes().count(-1));
        Due.due(BAD, new TwoShapes().count(13));
        counts(Tables.old(), 0, 4, none, 0, 2, 0, 0, 0, 0, 0, 0, 4, 0);
        counts(Tables.both(), 1, 4, 0, 0, 2, 0, 0, 0, 0, 0, 0, 4, 0);
        counts(Tables.ready(), 1, 4, 31, 0, 2, 2, 0, 3, 1, 0, 0, 4, 0);
        TwoShapes x = Tables.turned();
        x.writeNew(30, 1, 3);
        x.walk(2, 0);
        x.type('x');
        counts(x, 2, 5, none, 1, 2, 3, 1, 4, 0, 0, 4, 4, 1);
        x.crash();
        counts(x, 2, 5, none, 0, 2, 3, 1, 4, 0, 1, 4, 4, 1);
        counts(Tables.dropped(), 3, 4, none, 0, 0, 2, 0, 3, 0, 0, 0, 4, 0);
        TwoShapes y = Tables.turned();
        y.writeNew(0, 1, 2);
        y.drain(1);
        counts(y, 2, 5, none, 0, 3, 3, 1, 4, 0, 0, 0, 4, 0);
    }
}
