/** A table that changes its shape while it is read and written. README.md tells how it is built. */
public final class TwoShapes {
    public static final int INVALID_ARGUMENT = -1000001;
    public static final int NOT_POSSIBLE = -1000002;
    public static final int LIMIT_REACHED = -1000003;
    public static final int NOT_FOUND = -1000004;

    private static final int KEYS = 31;
    private static final int QUEUE_LIMIT = 8;
    private static final int VERSION_LIMIT = 100000;
    private static final int WALKS = 3;
    private static final int TEXT_LIMIT = 60;
    private static final int HISTORY_LIMIT = 4;

    // Costumes bear the numbers of their shapes.
    private static final int OLD = 0;
    private static final int NEW = 1;

    private static final int PHASE_OLD = 0;
    private static final int PHASE_BOTH = 1;
    private static final int PHASE_TURNED = 2;
    private static final int PHASE_NEW = 3;

    private static final int NO_ROW = -1;
    private static final int NONE = -1;

    private final Table[] history = new Table[HISTORY_LIMIT];
    private int states;
    private Table now = new Table();
    // Each change is made here first, so that one that turns out an error leaves no trace.
    private Table trial = new Table();
    private final Orders orders = new Orders();

    public TwoShapes() {
        for (int i = 0; i < HISTORY_LIMIT; i++) {
            history[i] = new Table();
        }
    }

    // ---- phases

    public int begin() {
        return settle(newTrial().startChange());
    }

    public int turn() {
        return settle(newTrial().turnOver());
    }

    public int back() {
        return settle(newTrial().turnBack());
    }

    public int drop() {
        return settle(newTrial().dropOld());
    }

    // ---- writing

    public int writeOld(int key, int a, int b, int c) {
        return settle(newTrial().putOld(key, a, b, c));
    }

    public int writeNew(int key, int u, int v) {
        return settle(newTrial().putNew(key, u, v));
    }

    public int remove(int key) {
        return settle(newTrial().takeAway(key));
    }

    public int drain(int many) {
        return settle(newTrial().drainQueue(many));
    }

    public int backfill(int many) {
        return settle(newTrial().fillKeys(many));
    }

    public int crash() {
        return settle(newTrial().loseQueue());
    }

    public int mend(int key) {
        return settle(newTrial().mendKey(key));
    }

    // ---- reading

    public int read(int key, int costume, int what) {
        int whats = costume == OLD ? 3 : 2;
        if (!isBelow(key, KEYS) || !isBelow(costume, 2) || !isBelow(what, whats)) {
            return INVALID_ARGUMENT;
        }
        int row = now.rowRead(key, costume);
        return row == NO_ROW ? NOT_FOUND : Row.number(row, costume, what);
    }

    public int shapeOf(int key, int shape, int what) {
        if (!isBelow(key, KEYS) || !isBelow(shape, 2) || !isBelow(what, 5)) {
            return INVALID_ARGUMENT;
        }
        if (!now.isThere(shape)) {
            return NOT_POSSIBLE;
        }
        Shape one = now.shape(shape);
        int row = one.row[key];
        if (what == 0) {
            return one.version[key];
        }
        if (what == 1) {
            return row == NO_ROW ? 0 : 1;
        }
        if (row == NO_ROW || (what == 4 && shape == NEW)) {
            return NOT_FOUND;
        }
        return Row.number(row, shape, what - 2);
    }

    public int queued(int index, int what) {
        if (index < 0 || !isBelow(what, 4)) {
            return INVALID_ARGUMENT;
        }
        if (index >= now.queue.length) {
            return NOT_FOUND;
        }
        switch (what) {
            case 0:
                return now.queue.key[index];
            case 1:
                return now.queue.version[index];
            case 2:
                return now.second();
            default:
                return now.queue.row[index] == NO_ROW ? 1 : 0;
        }
    }

    public int keys(int costume) {
        return isBelow(costume, 2) ? now.keysRead(costume) : INVALID_ARGUMENT;
    }

    public int check() {
        return now.hasBoth() ? now.differing() : NOT_POSSIBLE;
    }

    public int quarrel() {
        return now.quarrelling();
    }

    public int atRisk() {
        return now.isThere(OLD) ? now.risky() : NOT_POSSIBLE;
    }

    // ---- walks

    public int walk(int walk, int costume) {
        return settle(newTrial().startWalk(walk, costume));
    }

    public int step(int walk) {
        return settle(newTrial().goOn(walk));
    }

    public int count(int what) {
        switch (what) {
            case 0:
                return now.phase;
            case 1:
                return now.latest;
            case 2:
                return now.phase == PHASE_BOTH ? now.pointer : NOT_FOUND;
            case 3:
                return now.queue.length;
            case 4:
                return now.oldShape.rows();
            case 5:
                return now.newShape.rows();
            case 6:
                return now.newShape.strangeRows();
            case 7:
                return now.newShape.known();
            case 8:
                return now.isReady() ? 1 : 0;
            case 9:
                return now.lost;
            case 10:
                return now.walks;
            case 11:
                return states;
            case 12:
                return orders.length;
            default:
                return INVALID_ARGUMENT;
        }
    }

    public int undo() {
        if (states == 0) {
            return NOT_POSSIBLE;
        }
        states--;
        Table undone = now;
        now = history[states];
        history[states] = undone;
        return states;
    }

    // ---- texts

    public int type(int character) {
        if (character < 32 || character > 126) {
            return INVALID_ARGUMENT;
        }
        if (orders.length >= TEXT_LIMIT) {
            return LIMIT_REACHED;
        }
        orders.append(character);
        return orders.length;
    }

    public int clearText() {
        int length = orders.length;
        orders.length = 0;
        return length;
    }

    public int fault(int what) {
        if (!isBelow(what, 2)) {
            return INVALID_ARGUMENT;
        }
        orders.giveAll(newTrial());
        if (orders.reason == Orders.NO_FAULT) {
            return NOT_FOUND;
        }
        return what == 0 ? orders.place : orders.reason;
    }

    public int play() {
        orders.giveAll(newTrial());
        return settle(orders.reason == Orders.NO_FAULT ? orders.given : NOT_POSSIBLE);
    }

    // ---- changes

    private Table newTrial() {
        trial.copyFrom(now);
        return trial;
    }

    /** Lets the trial be the table if the answer is no error, and records what was before it. */
    private int settle(int answer) {
        if (answer < 0) {
            return answer;
        }
        // The table that nobody needs any more is the next trial, so that no call makes one.
        Table spare;
        if (states < HISTORY_LIMIT) {
            spare = history[states];
            history[states] = now;
            states++;
        } else {
            spare = history[0];
            for (int i = 1; i < HISTORY_LIMIT; i++) {
                history[i - 1] = history[i];
            }
            history[HISTORY_LIMIT - 1] = now;
        }
        now = trial;
        trial = spare;
        return answer;
    }

    private static boolean isBelow(int number, int bound) {
        return number >= 0 && number < bound;
    }

    /**
     * A row of either shape is one number, 4 * u + v. An old row is kept as what it is in the new
     * shape: this loses nothing, and made over from old to new it stays as it is.
     */
    private static final class Row {
        static final int VS = 4;
        static final int BS = 10;

        static int ofOld(int a, int b, int c) {
            return ofNew(BS * a + b, c);
        }

        static int ofNew(int u, int v) {
            return VS * u + v;
        }

        static boolean isStrange(int row) {
            return row != NO_ROW && row % VS > 1;
        }

        static int madeOver(int row, int shape) {
            if (shape == NEW || row == NO_ROW) {
                return row;
            }
            int v = row % VS;
            return v > 1 ? row - v + 1 : row;
        }

        static int number(int row, int shape, int what) {
            int u = row / VS;
            int v = row % VS;
            if (shape == NEW) {
                return what == 0 ? u : v;
            }
            if (what == 2) {
                return v;
            }
            return what == 0 ? u / BS : u % BS;
        }
    }

    /** What one shape has of each key. */
    private static final class Shape {
        final int number;
        // 0 if the shape knows nothing of the key
        final int[] version = new int[KEYS];
        // NO_ROW if the key is removed, or if the shape knows nothing of it
        final int[] row = new int[KEYS];

        Shape(int number) {
            this.number = number;
            clear();
        }

        void clear() {
            for (int key = 0; key < KEYS; key++) {
                version[key] = 0;
                row[key] = NO_ROW;
            }
        }

        void copyFrom(Shape other) {
            System.arraycopy(other.version, 0, version, 0, KEYS);
            System.arraycopy(other.row, 0, row, 0, KEYS);
        }

        void take(int key, int newVersion, int newRow) {
            if (newVersion >= version[key]) {
                version[key] = newVersion;
                row[key] = Row.madeOver(newRow, number);
            }
        }

        void takeFrom(Shape other, int key) {
            take(key, other.version[key], other.row[key]);
        }

        int rows() {
            int rows = 0;
            for (int key = 0; key < KEYS; key++) {
                rows += row[key] == NO_ROW ? 0 : 1;
            }
            return rows;
        }

        int strangeRows() {
            int rows = 0;
            for (int key = 0; key < KEYS; key++) {
                rows += Row.isStrange(row[key]) ? 1 : 0;
            }
            return rows;
        }

        int known() {
            int known = 0;
            for (int key = 0; key < KEYS; key++) {
                known += version[key] == 0 ? 0 : 1;
            }
            return known;
        }
    }

    /**
     * The writes that are still to come to the shape that is not first. No phase ends with a write
     * in the queue, so all of them come to the same shape, and the queue need not keep to which.
     */
    private static final class Queue {
        int length;
        final int[] key = new int[QUEUE_LIMIT];
        final int[] version = new int[QUEUE_LIMIT];
        // as it was written, NO_ROW for a removal
        final int[] row = new int[QUEUE_LIMIT];

        void copyFrom(Queue other) {
            length = other.length;
            System.arraycopy(other.key, 0, key, 0, QUEUE_LIMIT);
            System.arraycopy(other.version, 0, version, 0, QUEUE_LIMIT);
            System.arraycopy(other.row, 0, row, 0, QUEUE_LIMIT);
        }

        void append(int newKey, int newVersion, int newRow) {
            if (length < QUEUE_LIMIT) {
                key[length] = newKey;
                version[length] = newVersion;
                row[length] = newRow;
                length++;
            }
        }

        void shorten(int many) {
            int left = Math.max(0, length - many);
            for (int i = 0; i < left; i++) {
                key[i] = key[i + many];
                version[i] = version[i + many];
                row[i] = row[i + many];
            }
            length = left;
        }

        /** Returns the place of the latest write of a key, or NONE. */
        int latestOf(int wanted) {
            for (int i = length - 1; i >= 0; i--) {
                if (key[i] == wanted) {
                    return i;
                }
            }
            return NONE;
        }
    }

    /** All that a state of the history holds. */
    private static final class Table {
        int phase;
        int latest;
        int pointer;
        int lost;
        final Shape oldShape = new Shape(OLD);
        final Shape newShape = new Shape(NEW);
        final Queue queue = new Queue();
        // The version written last of each key: both shapes can have lost it.
        final int[] written = new int[KEYS];
        // The set of walks that are there, with the costume and the last key of each.
        int walks;
        final int[] walkCostume = new int[WALKS];
        final int[] walkKey = new int[WALKS];

        void copyFrom(Table other) {
            phase = other.phase;
            latest = other.latest;
            pointer = other.pointer;
            lost = other.lost;
            oldShape.copyFrom(other.oldShape);
            newShape.copyFrom(other.newShape);
            queue.copyFrom(other.queue);
            System.arraycopy(other.written, 0, written, 0, KEYS);
            walks = other.walks;
            System.arraycopy(other.walkCostume, 0, walkCostume, 0, WALKS);
            System.arraycopy(other.walkKey, 0, walkKey, 0, WALKS);
        }

        // ---- which shapes there are

        boolean hasBoth() {
            return phase == PHASE_BOTH || phase == PHASE_TURNED;
        }

        boolean isThere(int shape) {
            return shape == OLD ? phase != PHASE_NEW : phase != PHASE_OLD;
        }

        int first() {
            return phase == PHASE_OLD || phase == PHASE_BOTH ? OLD : NEW;
        }

        int second() {
            return other(first());
        }

        int other(int shape) {
            return shape == OLD ? NEW : OLD;
        }

        Shape shape(int shape) {
            return shape == OLD ? oldShape : newShape;
        }

        // ---- phases

        int startChange() {
            if (phase != PHASE_OLD) {
                return NOT_POSSIBLE;
            }
            phase = PHASE_BOTH;
            pointer = 0;
            return oldShape.rows();
        }

        boolean isReady() {
            return phase == PHASE_BOTH && pointer == KEYS && queue.length == 0 && differing() == 0;
        }

        int turnOver() {
            if (!isReady()) {
                return NOT_POSSIBLE;
            }
            phase = PHASE_TURNED;
            return newShape.rows();
        }

        int turnBack() {
            if (!hasBoth() || queue.length != 0) {
                return NOT_POSSIBLE;
            }
            if (phase == PHASE_TURNED) {
                phase = PHASE_BOTH;
                pointer = KEYS;
            } else {
                phase = PHASE_OLD;
                newShape.clear();
            }
            return phase;
        }

        int dropOld() {
            if (phase != PHASE_TURNED || queue.length != 0 || differing() != 0) {
                return NOT_POSSIBLE;
            }
            phase = PHASE_NEW;
            oldShape.clear();
            return newShape.strangeRows();
        }

        // ---- writing

        int putOld(int key, int a, int b, int c) {
            if (!isBelow(key, KEYS) || !isBelow(a, 100) || !isBelow(b, Row.BS) || !isBelow(c, 2)) {
                return INVALID_ARGUMENT;
            }
            return put(key, Row.ofOld(a, b, c));
        }

        int putNew(int key, int u, int v) {
            if (!isBelow(key, KEYS) || !isBelow(u, 1000) || !isBelow(v, Row.VS)) {
                return INVALID_ARGUMENT;
            }
            return put(key, Row.ofNew(u, v));
        }

        int takeAway(int key) {
            if (!isBelow(key, KEYS)) {
                return INVALID_ARGUMENT;
            }
            if (shape(first()).row[key] == NO_ROW) {
                return NOT_POSSIBLE;
            }
            return put(key, NO_ROW);
        }

        private int put(int key, int row) {
            boolean queueIsFull = hasBoth() && queue.length >= QUEUE_LIMIT;
            if (queueIsFull || latest >= VERSION_LIMIT) {
                return LIMIT_REACHED;
            }
            latest++;
            written[key] = latest;
            shape(first()).take(key, latest, row);
            if (hasBoth()) {
                queue.append(key, latest, row);
            }
            return latest;
        }

        int drainQueue(int many) {
            if (many < 1 || many > QUEUE_LIMIT) {
                return INVALID_ARGUMENT;
            }
            if (queue.length == 0) {
                return NOT_POSSIBLE;
            }
            int drained = Math.min(many, queue.length);
            Shape to = shape(second());
            for (int i = 0; i < drained; i++) {
                to.take(queue.key[i], queue.version[i], queue.row[i]);
            }
            queue.shorten(drained);
            return queue.length;
        }

        int fillKeys(int many) {
            if (many < 1 || many > KEYS) {
                return INVALID_ARGUMENT;
            }
            if (phase != PHASE_BOTH || pointer >= KEYS) {
                return NOT_POSSIBLE;
            }
            int got = 0;
            int end = Math.min(KEYS, pointer + many);
            for (int key = pointer; key < end; key++) {
                if (oldShape.version[key] > newShape.version[key]) {
                    newShape.takeFrom(oldShape, key);
                    got++;
                }
            }
            pointer = end;
            return got;
        }

        int loseQueue() {
            int many = queue.length;
            if (many == 0) {
                return NOT_POSSIBLE;
            }
            lost += many;
            queue.shorten(many);
            return many;
        }

        int mendKey(int key) {
            if (!isBelow(key, KEYS)) {
                return INVALID_ARGUMENT;
            }
            if (!hasBoth() || queue.latestOf(key) != NONE) {
                return NOT_POSSIBLE;
            }
            if ((differing() & 1 << key) == 0) {
                return 0;
            }
            int newer = newerOf(key);
            shape(other(newer)).takeFrom(shape(newer), key);
            return 1;
        }

        private int newerOf(int key) {
            int oldVersion = oldShape.version[key];
            int newVersion = newShape.version[key];
            if (oldVersion == newVersion) {
                return first();
            }
            return oldVersion > newVersion ? OLD : NEW;
        }

        // ---- reading

        int rowRead(int key, int costume) {
            int place = queue.latestOf(key);
            if (place != NONE && costume == second()) {
                return Row.madeOver(queue.row[place], costume);
            }
            boolean notYetFilled = phase == PHASE_BOTH && costume == NEW && newShape.version[key] == 0;
            int from = notYetFilled || !isThere(costume) ? other(costume) : costume;
            return Row.madeOver(shape(from).row[key], costume);
        }

        int keysRead(int costume) {
            int keys = 0;
            for (int key = 0; key < KEYS; key++) {
                if (rowRead(key, costume) != NO_ROW) {
                    keys |= 1 << key;
                }
            }
            return keys;
        }

        int quarrelling() {
            int keys = 0;
            for (int key = 0; key < KEYS; key++) {
                if (rowRead(key, OLD) != Row.madeOver(rowRead(key, NEW), OLD)) {
                    keys |= 1 << key;
                }
            }
            return keys;
        }

        int differing() {
            int keys = 0;
            for (int key = 0; key < KEYS; key++) {
                boolean unlikeVersions = oldShape.version[key] != newShape.version[key];
                if (unlikeVersions || oldShape.row[key] != Row.madeOver(newShape.row[key], OLD)) {
                    keys |= 1 << key;
                }
            }
            return keys;
        }

        int risky() {
            int keys = 0;
            for (int key = 0; key < KEYS; key++) {
                if (oldShape.version[key] != written[key]) {
                    keys |= 1 << key;
                }
            }
            return keys;
        }

        // ---- walks

        int startWalk(int walk, int costume) {
            if (!isBelow(walk, WALKS) || !isBelow(costume, 2)) {
                return INVALID_ARGUMENT;
            }
            walks |= 1 << walk;
            walkCostume[walk] = costume;
            walkKey[walk] = NONE;
            return Integer.bitCount(keysRead(costume));
        }

        int goOn(int walk) {
            if (!isBelow(walk, WALKS)) {
                return INVALID_ARGUMENT;
            }
            if ((walks & 1 << walk) == 0) {
                return NOT_POSSIBLE;
            }
            for (int key = walkKey[walk] + 1; key < KEYS; key++) {
                if (rowRead(key, walkCostume[walk]) != NO_ROW) {
                    walkKey[walk] = key;
                    return key;
                }
            }
            walks &= ~(1 << walk);
            return KEYS;
        }
    }

    /** The text, and the reading of its orders. */
    private static final class Orders {
        static final int NO_FAULT = 0;
        static final int BAD_FORM = 1;
        static final int OUT_OF_RANGE = 2;
        static final int REFUSED = 3;

        private static final int MOST_NUMBERS = 4;
        private static final int MOST_DIGITS = 3;

        int length;
        private final int[] text = new int[TEXT_LIMIT];

        // what giveAll found
        int given;
        int place;
        int reason;

        // the order that was read last
        private int kind;
        private final int[] number = new int[MOST_NUMBERS];

        void append(int character) {
            if (length < TEXT_LIMIT) {
                text[length] = character;
                length++;
            }
        }

        /** Gives the orders to a table one by one, up to the first one that is not possible. */
        void giveAll(Table table) {
            given = 0;
            place = 0;
            reason = NO_FAULT;
            while (given < TEXT_LIMIT && place < length) {
                int end = readOrder(place);
                reason = end == NONE ? BAD_FORM : reasonOf(give(table));
                if (reason != NO_FAULT) {
                    return;
                }
                given++;
                place = end;
            }
        }

        private static int reasonOf(int answer) {
            if (answer >= 0) {
                return NO_FAULT;
            }
            return answer == INVALID_ARGUMENT ? OUT_OF_RANGE : REFUSED;
        }

        private int give(Table table) {
            switch (kind) {
                case 'o':
                    return table.putOld(number[0], number[1], number[2], number[3]);
                case 'n':
                    return table.putNew(number[0], number[1], number[2]);
                case 'x':
                    return table.takeAway(number[0]);
                case 'd':
                    return table.drainQueue(number[0]);
                case 'b':
                    return table.fillKeys(number[0]);
                case 'm':
                    return table.mendKey(number[0]);
                case 't':
                    return table.turnOver();
                default:
                    return table.turnBack();
            }
        }

        private static int numbersOf(int sign) {
            switch (sign) {
                case 'o':
                    return 4;
                case 'n':
                    return 3;
                case 'x':
                case 'd':
                case 'b':
                case 'm':
                    return 1;
                case 't':
                case 'k':
                    return 0;
                default:
                    return NONE;
            }
        }

        /** Returns the place behind the order's ";", or NONE if it is not of the form. */
        private int readOrder(int from) {
            kind = signAt(from);
            int numbers = numbersOf(kind);
            if (numbers == NONE) {
                return NONE;
            }
            int at = from + 1;
            for (int i = 0; i < numbers; i++) {
                if (i > 0) {
                    if (signAt(at) != ',') {
                        return NONE;
                    }
                    at++;
                }
                int end = digitsEnd(at);
                if (end == at) {
                    return NONE;
                }
                number[i] = valueOf(at, end);
                at = end;
            }
            return signAt(at) == ';' ? at + 1 : NONE;
        }

        private int digitsEnd(int from) {
            int at = from;
            while (at < from + MOST_DIGITS && signAt(at) >= '0' && signAt(at) <= '9') {
                at++;
            }
            return at;
        }

        private int valueOf(int from, int end) {
            int value = 0;
            for (int at = from; at < end; at++) {
                value = 10 * value + signAt(at) - '0';
            }
            return value;
        }

        private int signAt(int at) {
            return isBelow(at, length) ? text[at] : NONE;
        }
    }
}
