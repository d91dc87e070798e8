import java.util.ArrayList;
import java.util.List;

/**
 * Lists of calls which together tell all that an object can answer. Each is for a fresh object, and
 * leaves room below the 512 calls for those by which the object came to its state.
 */
final class Looks {
    /** What the table, its walks and the text answer. */
    static final List<List<Call>> STATE = List.of(shapes(), reads(), sets(), steps(), orders());

    /** The same, and what the history holds. */
    static final List<List<Call>> ALL = List.of(shapes(), reads(), sets(), steps(), orders(), history());

    private static final int KEYS = 31;
    private static final int STATES = 4;
    private static final int HISTORY = 11;

    private Looks() {
    }

    private static List<Call> shapes() {
        List<Call> calls = new ArrayList<>();
        for (int key = 0; key < KEYS; key++) {
            for (int what = 0; what < 5; what++) {
                calls.add(new Call("shapeOf", key, 0, what));
                calls.add(new Call("shapeOf", key, 1, what));
            }
        }
        return calls;
    }

    private static List<Call> reads() {
        List<Call> calls = new ArrayList<>();
        for (int key = 0; key < KEYS; key++) {
            for (int what = 0; what < 3; what++) {
                calls.add(new Call("read", key, 0, what));
                calls.add(new Call("read", key, 1, what));
            }
        }
        return calls;
    }

    private static List<Call> sets() {
        List<Call> calls = Call.all("keys 0; keys 1; check; quarrel; atRisk; fault 0; fault 1");
        for (int what = 0; what < 13; what++) {
            if (what != HISTORY) {
                calls.add(new Call("count", what));
            }
        }
        for (int index = 0; index < 9; index++) {
            for (int what = 0; what < 4; what++) {
                calls.add(new Call("queued", index, what));
            }
        }
        return calls;
    }

    private static List<Call> steps() {
        List<Call> calls = new ArrayList<>();
        for (int walk = 0; walk < 3; walk++) {
            for (int i = 0; i <= KEYS; i++) {
                calls.add(new Call("step", walk));
            }
        }
        return calls;
    }

    /** The text can't be read; what its orders do is told by playing them. */
    private static List<Call> orders() {
        List<Call> calls = Call.all("play");
        calls.addAll(sets());
        calls.addAll(Call.all("clearText; fault 0; play"));
        return calls;
    }

    private static List<Call> history() {
        List<Call> calls = new ArrayList<>();
        for (int i = 0; i <= STATES; i++) {
            calls.add(new Call("count", HISTORY));
            calls.add(new Call("undo"));
            calls.addAll(sets());
        }
        return calls;
    }
}
