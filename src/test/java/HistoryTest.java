/**
 * "The changes are the calls of begin, writeOld, writeNew, remove, drain, backfill, turn, back, drop,
 * crash, mend, walk, step and play that return no error. A history of at most 4 states is kept: each
 * change records everything before it but the text, and if there are 5 states then, the oldest one is
 * dropped." And promise 23, undo.
 */
final class HistoryTest {
    private static final String CHANGES = "begin; writeOld 3 98 7 0; writeOld 9 1 1 1; writeNew 3 987 3; writeNew 9 1 2;"
            + "remove 3; remove 5; drain 1; drain 8; backfill 1; backfill 31; turn; back; drop; crash; mend 3; mend 5;"
            + "walk 0 1; walk 1 0; step 0; step 2; play";
    private static final String NO_CHANGES = "read 3 0 0; read 9 1 0; shapeOf 3 0 0; shapeOf 3 1 2; queued 0 0; keys 0;"
            + "keys 1; check; quarrel; atRisk; count 0; count 8; count 11; type 116; clearText; fault 0; fault 1";
    private static final Call STATES = new Call("count", 11);

    public static void main(String[] args) {
        eachChangeIsRecorded();
        eachChangeIsUndone();
        whatEachChangeChanged();
        fullQueueIsUndone();
        nothingElseIsRecorded();
        everyChangeIsDone();
        changesThatDoNothing();
        lastStepOfWalk();
        emptyHistory();
        fourStates();
        fiveStates();
        undoGoesBackThroughFour();
        undoIsNoChange();
        changesAfterUndo();
        theTextIsNotRestored();
        playIsUndoneAtOnce();
        Due.end();
    }

    /** Makes a table whose history has room for one state more, at least. */
    private static TwoShapes withRoom(Situation s) {
        return s.and("walk 1 1; undo; clearText");
    }

    private static void eachChangeIsRecorded() {
        for (Situation s : Situation.values()) {
            for (Call call : Call.all(CHANGES)) {
                TwoShapes x = withRoom(s);
                int states = STATES.on(x);
                int more = call.on(x) < 0 ? 0 : 1;
                Due.due(call + " in " + s + " is recorded", states + more, STATES.on(x));
            }
        }
    }

    /** "Restores the latest state": everything is as before, and so is what is left of the history. */
    private static void eachChangeIsUndone() {
        for (Situation s : Situation.values()) {
            for (Call call : Call.all(CHANGES)) {
                if (call.on(withRoom(s)) >= 0) {
                    Twins.alike(call + " in " + s + ", undone", Looks.ALL, () -> withRoom(s), () -> {
                        TwoShapes x = withRoom(s);
                        call.on(x);
                        x.undo();
                        return x;
                    });
                }
            }
        }
    }

    private static void whatEachChangeChanged() {
        TwoShapes x = Tables.both();
        Due.due(5, x.writeNew(3, 500, 3));
        Due.due(0, x.drain(1));
        Due.due(3, x.undo());
        Due.due(1, x.count(3));
        Due.due(0, x.shapeOf(3, 1, 0));
        Due.due(3, x.queued(0, 0));
        Due.due(2, x.undo());
        Due.due(0, x.count(3));
        Due.due(4, x.count(1));
        Due.due(12, x.shapeOf(3, 0, 2));
        Due.due("the version is free again", 5, x.writeOld(9, 1, 1, 1));
        Due.due(1, x.crash());
        x.undo();
        Due.due(0, x.count(9));
        Due.due(1, x.count(3));
        x.backfill(4);
        x.undo();
        Due.due(0, x.count(2));
        Due.due(0, x.count(7));
        x.walk(0, 0);
        x.step(0);
        x.undo();
        Due.due(3, x.step(0));
        x.undo();
        x.undo();
        Due.due(0, x.count(10));
        x.mend(3);
        x.undo();
        Due.due(0, x.count(7));
        TwoShapes y = Tables.ready();
        y.turn();
        y.undo();
        Due.due(1, y.count(0));
        Due.due(31, y.count(2));
        y.back();
        y.undo();
        Due.due(2, y.count(5));
        TwoShapes z = Tables.dropped();
        z.undo();
        Due.due(2, z.count(0));
        Due.due(2, z.count(4));
    }

    private static void fullQueueIsUndone() {
        TwoShapes x = Tables.both();
        for (int i = 0; i < 8; i++) {
            x.writeOld(i, i, i, 1);
        }
        x.crash();
        x.undo();
        x.walk(0, 0);
        for (int i = 0; i < 8; i++) {
            Due.due(i, x.queued(i, 0));
            Due.due(5 + i, x.queued(i, 1));
            Due.due(0, x.queued(i, 3));
        }
        x.drain(8);
        Due.due(77, x.shapeOf(7, 1, 2));
    }

    private static void nothingElseIsRecorded() {
        for (Situation s : Situation.values()) {
            for (Call call : Call.all(NO_CHANGES)) {
                TwoShapes x = withRoom(s);
                int states = STATES.on(x);
                call.on(x);
                Due.due(call + " in " + s + " is no change", states, STATES.on(x));
            }
        }
    }

    /** Each change is possible in one of the situations at least, so that the tests above tell of it. */
    private static void everyChangeIsDone() {
        for (Call call : Call.all(CHANGES)) {
            boolean done = false;
            for (Situation s : Situation.values()) {
                done |= call.on(withRoom(s)) >= 0;
            }
            Due.due(call + " is possible somewhere", 1, done ? 1 : 0);
        }
    }

    private static void changesThatDoNothing() {
        TwoShapes x = new TwoShapes();
        Due.due(0, x.begin());
        Due.due("a key that does not differ", 0, x.mend(0));
        Due.due(2, x.count(11));
        Due.due("none of these keys is known", 0, x.backfill(1));
        Due.due(3, x.count(11));
        Due.due("a text without orders", 0, x.play());
        Due.due(4, x.count(11));
    }

    private static void lastStepOfWalk() {
        TwoShapes x = new TwoShapes();
        Due.due(0, x.walk(1, 0));
        Due.due("there is no key", 31, x.step(1));
        Due.due("it is a change", 2, x.count(11));
        Due.due(1, x.undo());
        Due.due("the walk is there again", 2, x.count(10));
        Due.due(31, x.step(1));
    }

    private static void emptyHistory() {
        Twins.refused("a new object", TwoShapes::new, new Call("undo"), TwoShapes.NOT_POSSIBLE);
        TwoShapes x = new TwoShapes();
        x.writeOld(3, 1, 1, 1);
        Due.due("the last state", 0, x.undo());
        Due.due(TwoShapes.NOT_POSSIBLE, x.undo());
        Due.due(0, x.count(11));
        Due.due(0, x.keys(0));
    }

    private static void fourStates() {
        TwoShapes x = new TwoShapes();
        for (int i = 1; i <= 4; i++) {
            x.writeOld(i, i, 0, 0);
            Due.due(i, x.count(11));
        }
        for (int i = 3; i >= 0; i--) {
            Due.due(i, x.undo());
            Due.due("the versions", i, x.count(1));
        }
        Due.due("back to the new object", 0, x.keys(0));
        Due.due(TwoShapes.NOT_POSSIBLE, x.undo());
    }

    private static void fiveStates() {
        TwoShapes x = new TwoShapes();
        for (int i = 1; i <= 5; i++) {
            x.writeOld(i, i, 0, 0);
        }
        Due.due("the oldest is dropped", 4, x.count(11));
        for (int i = 3; i >= 0; i--) {
            Due.due(i, x.undo());
            Due.due("the versions", i + 1, x.count(1));
        }
        Due.due(TwoShapes.NOT_POSSIBLE, x.undo());
        Due.due("the first write can't be undone", 2, x.keys(0));
    }

    private static void undoGoesBackThroughFour() {
        TwoShapes x = new TwoShapes();
        for (int i = 1; i <= 100; i++) {
            x.writeOld(1, i % 100, 0, 0);
            Due.due(Math.min(i, 4), x.count(11));
        }
        for (int i = 99; i >= 96; i--) {
            x.undo();
            Due.due(i, x.read(1, 0, 0));
        }
        Due.due(TwoShapes.NOT_POSSIBLE, x.undo());
        Due.due(96, x.read(1, 0, 0));
    }

    private static void undoIsNoChange() {
        TwoShapes x = Situation.NEW.and("writeOld 1 1 1 1; writeOld 2 2 2 1; writeOld 3 3 3 1");
        Due.due(2, x.undo());
        Due.due("not what was undone, but the state before", 1, x.undo());
        Due.due(2, x.keys(0));
    }

    private static void changesAfterUndo() {
        TwoShapes x = Situation.NEW.and("writeOld 1 1 1 1; writeOld 2 2 2 1; undo; undo");
        Due.due("the version is free again", 1, x.writeOld(4, 1, 1, 1));
        Due.due(1, x.count(11));
        Due.due("what was undone is gone", 16, x.keys(0));
        Due.due(0, x.undo());
        Due.due(0, x.keys(0));
    }

    private static void theTextIsNotRestored() {
        TwoShapes x = Tables.withText(new TwoShapes(), "o1,1,1,1;");
        x.play();
        Due.due(9, x.clearText());
        Tables.type(x, "x1;");
        Due.due(1, x.play());
        Due.due("cleared and typed texts stay", 3, x.count(12));
        x.undo();
        Due.due(3, x.count(12));
        Due.due(TwoShapes.NOT_FOUND, x.fault(0));
        x.undo();
        Due.due(3, x.count(12));
        Due.due("it is the text typed last", 0, x.fault(0));
        Due.due(3, x.fault(1));
    }

    private static void playIsUndoneAtOnce() {
        String text = "b31;t;n3,1,3;d1;n5,1,3;";
        Due.due(5, Tables.withText(Situation.READY.and("undo"), text).play());
        Twins.alike("five orders, undone", Looks.ALL, () -> Tables.withText(Situation.READY.and("undo"), text), () -> {
            TwoShapes x = Tables.withText(Situation.READY.and("undo"), text);
            x.play();
            x.undo();
            return x;
        });
    }
}
