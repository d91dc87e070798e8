/** The sentences of "Terms" that name a boundary case: each stands above the test of its own. */
final class TermsTest {
    private static final int BAD = TwoShapes.INVALID_ARGUMENT;
    private static final int NO = TwoShapes.NOT_POSSIBLE;
    private static final int FULL = TwoShapes.LIMIT_REACHED;
    private static final int NONE = TwoShapes.NOT_FOUND;
    private static final int HIGHEST = 1 << 30;

    public static void main(String[] args) {
        setsAreBits();
        allKeys();
        fromOldToNew();
        fromNewToOld();
        strange();
        versions();
        refusedWritesHaveNoVersion();
        knowsNothingOrRemoved();
        oneShape();
        newShapeIsEmptyAtFirst();
        writesMadeOver();
        oldRowsForTheQueue();
        queueHasAtMostEight();
        removalsInTheQueue();
        noQueueInPhases0And3();
        olderWritesDoNothing();
        drainInOrder();
        latestWriteOfTheQueue();
        notTheQueueOfOtherKeys();
        shapeThatIsNotThere();
        newShapeKnowsNothing();
        oldShapeKnowsNothing();
        pointer();
        backfilledRows();
        backfilledOnlyIfOlder();
        differingKeys();
        ready();
        dropNeedsNoDifference();
        backFrom1();
        backFrom2();
        crashLosesAll();
        mendsTheOlder();
        walks();
        walkFromTheLowestKey();
        walksKeepTheirCostumes();
        stepToGreaterKeys();
        Due.end();
    }

    private static TwoShapes after(String calls) {
        return Call.make(new TwoShapes(), calls);
    }

    private static void oldRow(TwoShapes x, int key, int a, int b, int c) {
        Due.due("a of " + key, a, x.shapeOf(key, 0, 2));
        Due.due("b of " + key, b, x.shapeOf(key, 0, 3));
        Due.due("c of " + key, c, x.shapeOf(key, 0, 4));
    }

    private static void newRow(TwoShapes x, int key, int u, int v) {
        Due.due("u of " + key, u, x.shapeOf(key, 1, 2));
        Due.due("v of " + key, v, x.shapeOf(key, 1, 3));
    }

    // ---- "Sets are told as bits: bit k is for number k."

    private static void setsAreBits() {
        TwoShapes x = after("begin; backfill 31; turn; writeNew 0 1 1; writeNew 30 1 1; crash");
        Due.due(HIGHEST | 1, x.keys(1));
        Due.due(HIGHEST | 1, x.check());
        Due.due(HIGHEST | 1, x.quarrel());
        Due.due(HIGHEST | 1, x.atRisk());
        Due.due(0, x.keys(0));
        x.walk(0, 0);
        Due.due(1, x.count(10));
        x.walk(2, 0);
        Due.due(5, x.count(10));
        x.walk(1, 1);
        Due.due(7, x.count(10));
    }

    // ---- "The table has rows by keys, 0 to 30."

    private static void allKeys() {
        TwoShapes x = new TwoShapes();
        for (int key = 0; key <= 30; key++) {
            Due.due(key + 1, x.writeOld(key, key, key % 10, key % 2));
        }
        Due.due(31, x.count(4));
        Due.due(Integer.MAX_VALUE, x.keys(0));
        Due.due(Integer.MAX_VALUE, x.keys(1));
        Due.due(31, x.walk(0, 1));
        Due.due(31, x.begin());
        Due.due(Integer.MAX_VALUE, x.check());
        Due.due(31, x.backfill(31));
        Due.due(31, x.count(5));
        Due.due(31, x.count(7));
        Due.due(31, x.turn());
        for (int key = 0; key <= 30; key++) {
            newRow(x, key, 10 * key + key % 10, key % 2);
            Due.due(key, x.step(0));
        }
        Due.due(31, x.step(0));
    }

    // ---- "From old to new: u is 10 * a + b, v is c."

    private static void fromOldToNew() {
        int[][] rows = {{0, 0, 0, 0}, {0, 9, 1, 9}, {1, 0, 0, 10}, {9, 9, 1, 99}, {10, 0, 0, 100}, {99, 0, 1, 990},
            {99, 9, 0, 999}, {99, 9, 1, 999}};
        for (int[] r : rows) {
            TwoShapes x = new TwoShapes();
            x.writeOld(4, r[0], r[1], r[2]);
            Due.due("u", r[3], x.read(4, 1, 0));
            Due.due("v", r[2], x.read(4, 1, 1));
            Call.make(x, "begin; backfill 31");
            newRow(x, 4, r[3], r[2]);
        }
    }

    // ---- "From new to old: a is u divided by 10, b is what is left over, c is 0 if v is 0, otherwise 1."

    private static void fromNewToOld() {
        int[][] numbers = {{0, 0, 0}, {1, 0, 1}, {9, 0, 9}, {10, 1, 0}, {99, 9, 9}, {100, 10, 0}, {989, 98, 9},
            {990, 99, 0}, {999, 99, 9}};
        for (int[] n : numbers) {
            for (int v = 0; v < 4; v++) {
                TwoShapes x = new TwoShapes();
                x.writeNew(4, n[0], v);
                oldRow(x, 4, n[1], n[2], v == 0 ? 0 : 1);
                Due.due(n[1], x.read(4, 0, 0));
                Due.due(n[2], x.read(4, 0, 1));
                Due.due(v == 0 ? 0 : 1, x.read(4, 0, 2));
            }
        }
    }

    // ---- "A new row is strange if its v is above 1 (the old shape cannot tell it wholly)."

    private static void strange() {
        int[] due = {0, 0, 1, 1};
        for (int v = 0; v < 4; v++) {
            TwoShapes x = Situation.DROPPED.and("writeNew 30 0 " + v);
            Due.due("v " + v, due[v], x.count(6));
            x.remove(30);
            Due.due("a removed row is not strange", 0, x.count(6));
            TwoShapes y = Situation.TURNED.and("writeNew 0 999 " + v + "; drain 1");
            Due.due("v " + v, due[v], y.drop());
        }
    }

    // ---- "Each write (also each removal) has a version: 1 for the first one, and so on."

    private static void versions() {
        TwoShapes x = new TwoShapes();
        Due.due(0, x.count(1));
        Due.due(1, x.writeNew(0, 0, 0));
        Due.due(2, x.remove(0));
        Due.due(2, x.count(1));
        Due.due(2, x.shapeOf(0, 0, 0));
        Due.due(3, x.writeOld(0, 0, 0, 0));
        x.begin();
        Due.due("all other changes have none", 4, x.writeNew(30, 0, 0));
        x.crash();
        x.mend(0);
        x.backfill(31);
        x.turn();
        x.walk(0, 0);
        x.step(0);
        Due.due(4, x.count(1));
        Due.due(5, x.remove(30));
        Due.due(5, x.queued(0, 1));
    }

    private static void refusedWritesHaveNoVersion() {
        TwoShapes x = Situation.READY_FULL.made();
        int version = x.count(1);
        Due.due(FULL, x.writeOld(0, 0, 0, 0));
        Due.due(BAD, x.writeOld(31, 0, 0, 0));
        Due.due(FULL, x.writeNew(0, 0, 0));
        Due.due(FULL, x.remove(3));
        Due.due(NO, x.remove(9));
        Due.due(version, x.count(1));
        x.drain(1);
        Due.due(version + 1, x.writeOld(0, 0, 0, 0));
    }

    // ---- "A shape knows for each key ... either a row or that it is removed; or nothing, as long as
    // ---- no write of this key came to it."

    private static void knowsNothingOrRemoved() {
        TwoShapes x = after("writeOld 0 1 1 1; writeOld 30 1 1 1; remove 30");
        int[][] due = {{0, 1, 1}, {1, 0, 0}, {30, 3, 0}};
        for (int[] d : due) {
            Due.due("version of " + d[0], d[1], x.shapeOf(d[0], 0, 0));
            Due.due("row of " + d[0], d[2], x.shapeOf(d[0], 0, 1));
        }
        x.begin();
        Due.due("the new shape knows nothing yet", 0, x.count(7));
        x.backfill(31);
        Due.due("a row and a removal", 2, x.count(7));
        Due.due(1, x.count(5));
        Due.due(3, x.shapeOf(30, 1, 0));
        Due.due(0, x.shapeOf(30, 1, 1));
        Due.due(0, x.shapeOf(1, 1, 0));
    }

    // ---- "Phase 0, old: there is the old shape alone." and "Phase 3, new: there is the new shape alone."

    private static void oneShape() {
        TwoShapes x = Situation.OLD.made();
        Due.due(NO, x.shapeOf(3, 1, 0));
        Due.due(2, x.count(4));
        Due.due("0 for a shape that is not there", 0, x.count(5));
        Due.due(0, x.count(6));
        Due.due(0, x.count(7));
        TwoShapes y = Situation.DROPPED.made();
        Due.due(NO, y.shapeOf(3, 0, 0));
        Due.due("0 for a shape that is not there", 0, y.count(4));
        Due.due(2, y.count(5));
        Due.due(3, y.count(7));
    }

    // ---- "the new one is empty when the phase begins"

    private static void newShapeIsEmptyAtFirst() {
        TwoShapes x = Situation.OLD.and("begin; writeNew 3 777 3; drain 1; back; begin");
        Due.due(0, x.count(7));
        Due.due(0, x.shapeOf(3, 1, 0));
        Due.due("a strange row is gone with it", 1, x.read(3, 1, 1));
    }

    // ---- "In the phases 0 and 3 a write comes to the one shape that there is (made over to it, if it is
    // ---- of the other one)."

    private static void writesMadeOver() {
        TwoShapes x = after("writeNew 3 777 3");
        oldRow(x, 3, 77, 7, 1);
        Call.make(x, "begin; backfill 31");
        newRow(x, 3, 777, 1);
        TwoShapes y = Situation.DROPPED.and("writeOld 9 77 7 1");
        newRow(y, 9, 777, 1);
        TwoShapes z = Situation.DROPPED.and("writeNew 9 777 3");
        newRow(z, 9, 777, 3);
    }

    // ---- "behind the queue as a write to the other one (made over, if it is of the other shape than the
    // ---- one to which it comes, always from what was written)"

    private static void oldRowsForTheQueue() {
        TwoShapes x = Situation.READY.and("writeNew 3 777 3");
        oldRow(x, 3, 77, 7, 1);
        Due.due("not at once", 1, x.shapeOf(3, 1, 0));
        Due.due(1, x.queued(0, 2));
        x.drain(1);
        newRow(x, 3, 777, 3);
        TwoShapes y = Situation.TURNED.and("writeNew 3 777 3");
        newRow(y, 3, 777, 3);
        Due.due("not at once", 1, y.shapeOf(3, 0, 0));
        Due.due(0, y.queued(0, 2));
        y.drain(1);
        oldRow(y, 3, 77, 7, 1);
        TwoShapes z = Situation.TURNED.and("writeOld 9 1 2 0; drain 1");
        oldRow(z, 9, 1, 2, 0);
        newRow(z, 9, 12, 0);
        TwoShapes w = Situation.READY.and("writeOld 9 1 2 0; drain 1");
        oldRow(w, 9, 1, 2, 0);
        newRow(w, 9, 12, 0);
    }

    // ---- "the queue has at most 8 writes"

    private static void queueHasAtMostEight() {
        for (Situation s : new Situation[] {Situation.BEGUN, Situation.READY, Situation.TURNED}) {
            TwoShapes x = s.made();
            Due.due("an empty queue", 0, x.count(3));
            for (int i = 1; i <= 8; i++) {
                Due.due(4 + i, i % 2 == 0 ? x.writeOld(i, i, 0, 0) : x.writeNew(i, i, 0));
                Due.due(i, x.count(3));
            }
            Due.due(FULL, x.writeOld(9, 0, 0, 0));
            Due.due(FULL, x.writeNew(9, 0, 0));
            Due.due(FULL, x.remove(1));
            Due.due(8, x.count(3));
            Due.due(7, x.drain(1));
            Due.due("there is room again", 13, x.remove(1));
            Due.due(8, x.count(3));
            Due.due(FULL, x.remove(2));
        }
    }

    private static void removalsInTheQueue() {
        for (Situation s : new Situation[] {Situation.READY, Situation.TURNED}) {
            TwoShapes x = s.made();
            for (int i = 0; i < 4; i++) {
                x.writeOld(20, i, 0, 0);
                x.remove(20);
            }
            Due.due("they count as writes", 8, x.count(3));
            for (int i = 0; i < 8; i++) {
                Due.due(20, x.queued(i, 0));
                Due.due(5 + i, x.queued(i, 1));
                Due.due(i % 2, x.queued(i, 3));
            }
            Due.due(FULL, x.writeNew(20, 1, 1));
        }
    }

    private static void noQueueInPhases0And3() {
        for (Situation s : new Situation[] {Situation.NEW, Situation.DROPPED}) {
            TwoShapes x = s.made();
            int version = x.count(1);
            for (int i = 1; i <= 12; i++) {
                Due.due(version + i, x.writeOld(1, i, 0, 0));
                Due.due(0, x.count(3));
                Due.due(NONE, x.queued(0, 0));
            }
        }
    }

    // ---- "A write that is older than what a shape has of the key does nothing there (one of the same
    // ---- version comes to it)."

    private static void olderWritesDoNothing() {
        TwoShapes x = Situation.BEGUN.and("writeNew 3 100 2; writeNew 3 200 3; backfill 4");
        Due.due("the shape has the version of the latter", 6, x.shapeOf(3, 1, 0));
        newRow(x, 3, 200, 1);
        Due.due(1, x.drain(1));
        Due.due("the older one", 6, x.shapeOf(3, 1, 0));
        newRow(x, 3, 200, 1);
        Due.due(0, x.drain(1));
        Due.due("the one of the same version", 6, x.shapeOf(3, 1, 0));
        newRow(x, 3, 200, 3);
        TwoShapes y = Situation.BEGUN.and("remove 3; writeNew 3 200 2; backfill 31; drain 1");
        Due.due("an older removal", 1, y.shapeOf(3, 1, 1));
        TwoShapes z = Situation.BEGUN.and("writeNew 3 200 2; remove 3; backfill 31; drain 1");
        Due.due("older than a removal", 0, z.shapeOf(3, 1, 1));
        Due.due(6, z.shapeOf(3, 1, 0));
    }

    // ---- "To drain the queue means that its first writes come to their shape, in order."

    private static void drainInOrder() {
        TwoShapes x = Situation.READY.and("writeOld 3 1 0 0; writeOld 9 2 0 0; writeOld 3 3 0 0; remove 9");
        Due.due(3, x.drain(1));
        newRow(x, 3, 10, 0);
        Due.due(0, x.shapeOf(9, 1, 0));
        Due.due(9, x.queued(0, 0));
        Due.due(1, x.drain(2));
        newRow(x, 3, 30, 0);
        newRow(x, 9, 20, 0);
        Due.due("fewer if there are fewer", 0, x.drain(8));
        Due.due(0, x.shapeOf(9, 1, 1));
        Due.due(8, x.shapeOf(9, 1, 0));
    }

    // ---- "if the latest write of the key in the queue is for this shape, from this write"

    private static void latestWriteOfTheQueue() {
        TwoShapes x = Situation.TURNED.and("writeNew 9 111 3; writeOld 9 22 2 0; remove 9");
        Due.due(NONE, x.read(9, 0, 0));
        x.undo();
        Due.due(22, x.read(9, 0, 0));
        Due.due(0, x.read(9, 0, 2));
        x.undo();
        Due.due(11, x.read(9, 0, 0));
        Due.due("made over", 1, x.read(9, 0, 2));
        TwoShapes y = Situation.READY.and("writeNew 3 111 2; writeNew 3 222 3; remove 3");
        Due.due(NONE, y.read(3, 1, 0));
        y.undo();
        Due.due(222, y.read(3, 1, 0));
        Due.due(3, y.read(3, 1, 1));
        y.undo();
        Due.due(111, y.read(3, 1, 0));
        Due.due(2, y.read(3, 1, 1));
        Due.due("the first shape has it at once", 11, y.read(3, 0, 0));
    }

    private static void notTheQueueOfOtherKeys() {
        TwoShapes x = Situation.READY.and("writeNew 2 111 2; writeNew 4 222 3; writeNew 0 0 0");
        Due.due(123, x.read(3, 1, 0));
        Due.due(1, x.read(3, 1, 1));
        Due.due(NONE, x.read(1, 1, 0));
        TwoShapes y = Situation.TURNED.and("writeNew 2 111 2; remove 5; writeNew 0 0 0");
        Due.due(12, y.read(3, 0, 0));
        Due.due(NONE, y.read(5, 0, 0));
    }

    // ---- "and if this shape is not there, from the other one (made over)"

    private static void shapeThatIsNotThere() {
        TwoShapes x = after("writeOld 9 77 7 1");
        Due.due(777, x.read(9, 1, 0));
        Due.due(1, x.read(9, 1, 1));
        TwoShapes y = Situation.DROPPED.and("writeNew 9 777 3; writeNew 10 8 0");
        Due.due(77, y.read(9, 0, 0));
        Due.due(7, y.read(9, 0, 1));
        Due.due(1, y.read(9, 0, 2));
        Due.due(0, y.read(10, 0, 2));
    }

    // ---- "If in the phase 1 the new shape knows nothing of a key (and nothing of it is in the queue), it
    // ---- is read from the old shape (made over)."

    private static void newShapeKnowsNothing() {
        TwoShapes x = Situation.BEGUN.made();
        Due.due(123, x.read(3, 1, 0));
        Due.due(NONE, x.read(7, 1, 0));
        Due.due(NONE, x.read(9, 1, 0));
        Due.due(40, x.keys(1));
        x.writeNew(3, 777, 3);
        Due.due("it is in the queue", 3, x.read(3, 1, 1));
        x.crash();
        Due.due("it is not any more", 1, x.read(3, 1, 1));
        Due.due(777, x.read(3, 1, 0));
        x.remove(3);
        Due.due("its removal is in the queue", NONE, x.read(3, 1, 0));
        x.drain(1);
        Due.due("the new shape knows that it is removed", NONE, x.read(3, 1, 0));
        x.writeOld(3, 1, 1, 1);
        x.crash();
        Due.due("and knows nothing else", NONE, x.read(3, 1, 0));
        Due.due(1, x.read(3, 0, 0));
    }

    // ---- "(In the phase 2 there is no such thing for the old shape.)"

    private static void oldShapeKnowsNothing() {
        TwoShapes x = Situation.TURNED.and("writeNew 9 777 3");
        Due.due(77, x.read(9, 0, 0));
        x.crash();
        Due.due(0, x.shapeOf(9, 0, 0));
        Due.due(NONE, x.read(9, 0, 0));
        Due.due(777, x.read(9, 1, 0));
        Due.due(40, x.keys(0));
        Due.due(40 + 512, x.keys(1));
        x.back();
        Due.due("nor in the phase 1", NONE, x.read(9, 0, 0));
    }

    // ---- "In the phase 1 a pointer goes through the keys, from 0 on; ... then the pointer goes on by 1. It
    // ---- is done when the pointer is 31."

    private static void pointer() {
        TwoShapes x = Situation.BEGUN.made();
        Due.due(0, x.count(2));
        for (int i = 1; i <= 31; i++) {
            Due.due(i == 4 || i == 6 || i == 8 ? 1 : 0, x.backfill(1));
            Due.due(i, x.count(2));
        }
        Due.due(NO, x.backfill(1));
        Due.due(31, x.count(2));
        TwoShapes y = Situation.BEGUN.made();
        Due.due(3, y.backfill(30));
        Due.due("one key is left", 30, y.count(2));
        Due.due(0, y.backfill(31));
        Due.due("as many as there are", 31, y.count(2));
        TwoShapes z = Situation.BEGUN.made();
        Due.due(3, z.backfill(31));
        Due.due(31, z.count(2));
    }

    // ---- "if the old shape knows it (as a row or as removed), and the new shape knows nothing of it, or
    // ---- has an older version, the new shape gets it (made over, with the version that the old one has)"

    private static void backfilledRows() {
        TwoShapes x = after("writeOld 0 12 3 1; writeNew 30 999 3; writeOld 1 1 1 1; remove 1; begin");
        Due.due(3, x.backfill(31));
        newRow(x, 0, 123, 1);
        Due.due(1, x.shapeOf(0, 1, 0));
        newRow(x, 30, 999, 1);
        Due.due(2, x.shapeOf(30, 1, 0));
        Due.due(4, x.shapeOf(1, 1, 0));
        Due.due(0, x.shapeOf(1, 1, 1));
        Due.due("of which the old shape knows nothing", 0, x.shapeOf(2, 1, 0));
        Due.due(3, x.count(7));
    }

    private static void backfilledOnlyIfOlder() {
        TwoShapes x = Situation.BEGUN.and("writeNew 3 777 3; drain 1");
        Due.due("the same version of 3", 2, x.backfill(31));
        newRow(x, 3, 777, 3);
        TwoShapes y = Situation.BEGUN.and("writeNew 3 777 3; drain 1; writeNew 3 888 3; crash");
        Due.due("an older version of 3", 3, y.backfill(31));
        newRow(y, 3, 888, 1);
        Due.due(6, y.shapeOf(3, 1, 0));
        TwoShapes z = Situation.BEGUN.and("writeNew 3 777 3; drain 1; remove 3; crash");
        Due.due("a row older than the removal", 3, z.backfill(31));
        Due.due(0, z.shapeOf(3, 1, 1));
    }

    // ---- "A key differs if the old and the new shape have unlike versions of it (of which one may know
    // ---- nothing), or, with the same version, the old row is not what the new one is in the old shape."

    private static void differingKeys() {
        TwoShapes x = Situation.BEGUN.made();
        Due.due("the new one knows nothing", 8 + 32 + 128, x.check());
        Due.due("neither knows 9", 0, x.check() & 512);
        x.backfill(4);
        Due.due(32 + 128, x.check());
        TwoShapes y = Situation.TURNED.and("writeNew 9 777 3");
        Due.due("the old one knows nothing", 512, y.check());
        y.drain(1);
        Due.due("a strange row is 1 in the old shape", 0, y.check());
        y.writeOld(9, 77, 7, 1);
        y.crash();
        Due.due("the same row in the old shape, of another version", 512, y.check());
        TwoShapes z = Situation.READY.and("remove 3; writeOld 3 12 3 1; drain 1; crash");
        Due.due("the removal of one version, the row of another", 8, z.check());
        Due.due(8, z.quarrel());
    }

    // ---- "A table is ready if it is in the phase 1, backfilling is done, the queue is empty, and no key
    // ---- differs." and "To turn over (phase 1 to 2) is possible if the table is ready."

    private static void ready() {
        for (Situation s : Situation.values()) {
            int due = s == Situation.READY ? 1 : 0;
            Due.due(s + " is ready", due, s.made().count(8));
            Due.due(s + " can be turned", due == 1 ? 2 : NO, s.made().turn());
        }
        TwoShapes x = after("begin; backfill 30");
        Due.due("a key is left for backfilling, though none differs", NO, x.turn());
        Due.due(0, x.check());
        x.backfill(1);
        Due.due("an empty table", 1, x.count(8));
        Due.due(0, x.turn());
        TwoShapes y = Situation.READY.and("writeOld 3 1 1 1; mend 5");
        Due.due(NO, y.turn());
        y.drain(1);
        Due.due(2, y.turn());
        TwoShapes z = Situation.READY.and("writeOld 3 1 1 1; backfill 31; crash");
        Due.due("a lost write", NO, z.turn());
        z.writeOld(3, 1, 1, 1);
        Due.due(NO, z.turn());
        z.drain(8);
        Due.due("a later one mends it", 2, z.turn());
        TwoShapes w = Situation.BEGUN.and("writeNew 3 777 3; backfill 31");
        Due.due("backfilled ahead of its write in the queue", 0, w.check());
        Due.due(1, w.count(3));
        Due.due(0, w.count(8));
        Due.due(NO, w.turn());
        w.drain(1);
        Due.due(1, w.count(8));
    }

    // ---- "To drop (phase 2 to 3) is possible if the queue is empty and no key differs; the old shape is
    // ---- gone."

    private static void dropNeedsNoDifference() {
        for (Situation s : Situation.values()) {
            Due.due(s + " can be dropped", s == Situation.TURNED ? 0 : NO, s.made().drop());
        }
        TwoShapes x = Situation.TURNED.and("writeNew 0 1 3; writeNew 30 1 2");
        Due.due("two are in the queue", NO, x.drop());
        x.drain(1);
        Due.due("one is", NO, x.drop());
        x.crash();
        Due.due("one differs", NO, x.drop());
        x.mend(30);
        Due.due(2, x.drop());
        Due.due(NO, x.shapeOf(0, 0, 0));
        Due.due(NO, x.atRisk());
    }

    // ---- "To turn back (2 to 1, or 1 to 0) is possible if the queue is empty; from 1 to 0 the new shape is
    // ---- gone."

    private static void backFrom1() {
        for (Situation s : new Situation[] {Situation.BEGUN, Situation.NEARLY, Situation.READY, Situation.DIFFERING}) {
            TwoShapes x = s.made();
            Due.due(0, x.back());
            Due.due(0, x.count(0));
            Due.due(NO, x.shapeOf(3, 1, 0));
            Due.due(0, x.count(7));
            Due.due(NONE, x.count(2));
            Due.due(NO, x.back());
        }
        for (Situation s : new Situation[] {Situation.BEGUN_FULL, Situation.WAITING, Situation.READY_FULL}) {
            Due.due(NO, s.made().back());
            Due.due(0, s.and("drain 8").back());
            Due.due(0, s.and("crash").back());
        }
        Due.due("all but one are drained", NO, Situation.READY_FULL.and("drain 7").back());
    }

    // ---- "Behind turning back from 2 to 1 the pointer is 31."

    private static void backFrom2() {
        TwoShapes x = Situation.TURNED_DIFFERING.made();
        Due.due(NONE, x.count(2));
        Due.due(1, x.back());
        Due.due(31, x.count(2));
        Due.due("so backfilling is done", NO, x.backfill(1));
        Due.due("the new shape is still there", 777, x.shapeOf(3, 1, 2));
        Due.due(3, x.shapeOf(3, 1, 3));
        Due.due(0, x.count(8));
        Due.due(NO, Situation.TURNED_WAITING.made().back());
        Due.due(NO, Situation.TURNED_FULL.and("drain 7").back());
        Due.due(1, Situation.TURNED_FULL.and("drain 8").back());
        Due.due(1, Situation.TURNED.made().back());
    }

    // ---- "A crash: the queue is lost, all of it."

    private static void crashLosesAll() {
        for (Situation s : new Situation[] {Situation.READY, Situation.TURNED}) {
            for (int many = 1; many <= 8; many++) {
                TwoShapes x = s.made();
                for (int i = 0; i < many; i++) {
                    x.writeOld(9 + i, 1, 1, 1);
                }
                Due.due(many, x.crash());
                Due.due(0, x.count(3));
                Due.due(NONE, x.queued(0, 0));
                Due.due(many, x.count(9));
                Due.due((1 << 9 + many) - 512, x.check());
                Due.due(NO, x.crash());
                Due.due(many, x.count(9));
            }
        }
    }

    // ---- "of both shapes the one with the older version of the key (or without any) gets what the other
    // ---- one has (made over, with its version)"

    private static void mendsTheOlder() {
        TwoShapes x = Situation.DIFFERING.made();
        Due.due(1, x.mend(3));
        newRow(x, 3, 777, 1);
        Due.due(5, x.shapeOf(3, 1, 0));
        oldRow(x, 3, 77, 7, 1);
        TwoShapes y = Situation.TURNED_DIFFERING.made();
        Due.due(1, y.mend(3));
        oldRow(y, 3, 77, 7, 1);
        Due.due(5, y.shapeOf(3, 0, 0));
        newRow(y, 3, 777, 3);
        TwoShapes z = Situation.TURNED.and("writeNew 0 777 3; writeNew 30 888 2; remove 5; crash; back");
        Due.due("though the old shape is first", 1, z.mend(0));
        oldRow(z, 0, 77, 7, 1);
        newRow(z, 0, 777, 3);
        Due.due(1, z.mend(30));
        oldRow(z, 30, 88, 8, 1);
        Due.due("a removal", 1, z.mend(5));
        Due.due(0, z.shapeOf(5, 0, 1));
        Due.due(7, z.shapeOf(5, 0, 0));
        Due.due(0, z.check());
        TwoShapes w = Situation.BEGUN.and("mend 7");
        Due.due("a removal, to a shape without any", 4, w.shapeOf(7, 1, 0));
        Due.due(0, w.shapeOf(7, 1, 1));
    }

    // ---- "There are 3 walks, numbered from 0, each of which is there or not"

    private static void walks() {
        TwoShapes x = after("writeOld 0 1 1 1; writeOld 15 1 1 1; writeOld 30 1 1 1");
        for (int walk = 0; walk < 3; walk++) {
            Due.due(NO, x.step(walk));
        }
        for (int walk = 0; walk < 3; walk++) {
            Due.due(3, x.walk(walk, walk % 2));
            Due.due((2 << walk) - 1, x.count(10));
        }
        Due.due("each by itself", 0, x.step(2));
        Due.due(15, x.step(2));
        Due.due(0, x.step(0));
        Due.due(30, x.step(2));
        Due.due(31, x.step(2));
        Due.due(3, x.count(10));
        Due.due(NO, x.step(2));
        Due.due(15, x.step(0));
        Due.due(0, x.step(1));
    }

    // ---- "a walk has a costume and goes through the keys from the lowest one on"

    private static void walkFromTheLowestKey() {
        TwoShapes x = Situation.TURNED.and("writeNew 0 1 1; remove 3; crash");
        Due.due("the old one", 2, x.walk(0, 0));
        Due.due("the new one", 2, x.walk(1, 1));
        Due.due(3, x.step(0));
        Due.due(0, x.step(1));
        Due.due("a new one in its place", 2, x.walk(0, 1));
        Due.due(0, x.step(0));
        Due.due(5, x.step(0));
        Due.due("the costume of a walk that is there", 2, x.walk(0, 0));
        Due.due(3, x.step(0));
    }

    private static void walksKeepTheirCostumes() {
        for (int set = 0; set < 8; set++) {
            TwoShapes x = Situation.TURNED.and("writeNew 0 1 1; remove 3; crash");
            for (int walk = 0; walk < 3; walk++) {
                x.walk(walk, set >> walk & 1);
            }
            x.mend(9);
            for (int walk = 0; walk < 3; walk++) {
                Due.due("walk " + walk, (set >> walk & 1) == 0 ? 3 : 0, x.step(walk));
            }
            x.undo();
            x.undo();
            Due.due("undone, too", (set >> 2 & 1) == 0 ? 3 : 0, x.step(2));
        }
    }

    // ---- "each step goes to the next key greater than the one before of which a reader in this costume
    // ---- reads a row then"

    private static void stepToGreaterKeys() {
        TwoShapes x = after("writeOld 2 1 1 1; walk 0 0; walk 1 0; step 0; writeOld 1 1 1 1; writeOld 29 1 1 1");
        Due.due("the lower one is passed by", 29, x.step(0));
        x.writeOld(30, 1, 1, 1);
        Due.due("the next one", 30, x.step(0));
        Due.due(31, x.step(0));
        Due.due("a walk that has not gone yet", 1, x.step(1));
        x.remove(2);
        x.remove(29);
        Due.due(30, x.step(1));
        x.remove(30);
        Due.due("removed behind it", 31, x.step(1));
        TwoShapes y = Situation.TURNED.and("walk 0 0; writeNew 1 1 1");
        Due.due("read from the queue", 1, y.step(0));
        y.writeNew(2, 1, 1);
        y.crash();
        Due.due("lost", 3, y.step(0));
    }
}
