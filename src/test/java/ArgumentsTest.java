/**
 * The range of each argument of each call: "INVALID_ARGUMENT if an argument is out of range", in
 * every situation, so also where another error applies, and nothing is changed by it.
 */
final class ArgumentsTest {
    private static final int BAD = TwoShapes.INVALID_ARGUMENT;

    public static void main(String[] args) {
        writeOld();
        writeNew();
        remove();
        drain();
        backfill();
        mend();
        read();
        shapeOf();
        queued();
        keys();
        walk();
        step();
        count();
        type();
        fault();
        severalBadArguments();
        Due.end();
    }

    /** A call that is good but for the argument at a place, which may be low to high. */
    private static void range(String good, int position, int low, int high) {
        Call call = Call.of(good);
        int[] bad = {low - 1, high + 1, Integer.MIN_VALUE, Integer.MAX_VALUE};
        for (Situation s : Situation.values()) {
            for (int argument : bad) {
                Twins.refused(s.name(), s::made, call.with(position, argument), BAD);
            }
            inRange(s, call.with(position, low));
            inRange(s, call.with(position, high));
        }
    }

    private static void inRange(Situation s, Call call) {
        int answer = call.on(s.made());
        Due.due(call + " in " + s + " is in range", 0, answer == BAD ? 1 : 0);
    }

    private static void writeOld() {
        range("writeOld 3 1 1 1", 0, 0, 30);
        range("writeOld 3 1 1 1", 1, 0, 99);
        range("writeOld 3 1 1 1", 2, 0, 9);
        range("writeOld 3 1 1 1", 3, 0, 1);
    }

    private static void writeNew() {
        range("writeNew 3 1 1", 0, 0, 30);
        range("writeNew 3 1 1", 1, 0, 999);
        range("writeNew 3 1 1", 2, 0, 3);
    }

    private static void remove() {
        range("remove 3", 0, 0, 30);
    }

    private static void drain() {
        range("drain 1", 0, 1, 8);
    }

    private static void backfill() {
        range("backfill 1", 0, 1, 31);
    }

    private static void mend() {
        range("mend 3", 0, 0, 30);
    }

    /** "what is 2 and the costume 1, too" */
    private static void read() {
        range("read 3 0 0", 0, 0, 30);
        range("read 3 0 0", 1, 0, 1);
        range("read 3 0 0", 2, 0, 2);
        range("read 3 1 0", 2, 0, 1);
        // Of a key without a row, NOT_FOUND would apply.
        range("read 9 0 0", 2, 0, 2);
        range("read 9 1 0", 2, 0, 1);
    }

    private static void shapeOf() {
        range("shapeOf 3 0 0", 0, 0, 30);
        range("shapeOf 3 0 0", 1, 0, 1);
        range("shapeOf 3 0 0", 2, 0, 4);
        range("shapeOf 3 1 0", 2, 0, 4);
    }

    /** "out of range or negative": an index has no greatest value. */
    private static void queued() {
        range("queued 0 0", 1, 0, 3);
        range("queued 8 0", 1, 0, 3);
        range("queued " + Integer.MAX_VALUE + " 0", 1, 0, 3);
        for (Situation s : Situation.values()) {
            Twins.refused(s.name(), s::made, new Call("queued", -1, 0), BAD);
            Twins.refused(s.name(), s::made, new Call("queued", Integer.MIN_VALUE, 3), BAD);
            inRange(s, new Call("queued", 0, 0));
            inRange(s, new Call("queued", Integer.MAX_VALUE, 3));
        }
    }

    private static void keys() {
        range("keys 0", 0, 0, 1);
    }

    private static void walk() {
        range("walk 0 0", 0, 0, 2);
        range("walk 0 0", 1, 0, 1);
    }

    private static void step() {
        range("step 0", 0, 0, 2);
    }

    private static void count() {
        range("count 0", 0, 0, 12);
    }

    private static void type() {
        range("type 32", 0, 32, 126);
    }

    private static void fault() {
        range("fault 0", 0, 0, 1);
    }

    private static void severalBadArguments() {
        for (String call : new String[] {"writeOld -1 100 10 2", "writeNew 31 -1 4", "read -1 2 3", "read 31 -1 0",
            "shapeOf 31 2 5", "queued -1 4", "walk 3 2", "walk -1 -1"}) {
            for (Situation s : Situation.values()) {
                Twins.refused(s.name(), s::made, Call.of(call), BAD);
            }
        }
    }
}
