import java.util.ArrayDeque;
import java.util.ArrayList;
import java.util.Deque;
import java.util.List;
import java.util.Map;
import java.util.TreeMap;
import java.util.regex.Matcher;
import java.util.regex.Pattern;

/**
 * What the document says, written apart from the class and in another way: rows as lists of
 * numbers, shapes as maps, states as copies. It may be slow and make what it likes.
 */
final class Model {
    static final int BAD = -1000001;
    static final int NO = -1000002;
    static final int FULL = -1000003;
    static final int NONE = -1000004;

    /** A write: its key, its version, and its row in the shape in which it is meant; null removes. */
    record Write(int key, int version, List<Integer> row, int shape) {
    }

    private static final class State {
        int phase;
        int version;
        int pointer;
        int lost;
        List<Map<Integer, Write>> shapes = new ArrayList<>(List.of(new TreeMap<>(), new TreeMap<>()));
        List<Write> queue = new ArrayList<>();
        Map<Integer, Integer> lastVersions = new TreeMap<>();
        Map<Integer, int[]> walks = new TreeMap<>();

        State copy() {
            State made = new State();
            made.phase = phase;
            made.version = version;
            made.pointer = pointer;
            made.lost = lost;
            made.shapes = new ArrayList<>(List.of(new TreeMap<>(shapes.get(0)), new TreeMap<>(shapes.get(1))));
            made.queue = new ArrayList<>(queue);
            made.lastVersions = new TreeMap<>(lastVersions);
            walks.forEach((number, walk) -> made.walks.put(number, walk.clone()));
            return made;
        }
    }

    private State state = new State();
    private final Deque<State> history = new ArrayDeque<>();
    private String text = "";

    // ---- the terms

    private static List<Integer> over(List<Integer> row, int shape) {
        if (row == null || row.size() == (shape == 0 ? 3 : 2)) {
            return row;
        }
        if (shape == 1) {
            return List.of(10 * row.get(0) + row.get(1), row.get(2));
        }
        return List.of(row.get(0) / 10, row.get(0) % 10, row.get(1) == 0 ? 0 : 1);
    }

    private static boolean out(int number, int low, int high) {
        return number < low || number > high;
    }

    private boolean both() {
        return state.phase == 1 || state.phase == 2;
    }

    private int firstShape() {
        return state.phase < 2 ? 0 : 1;
    }

    private boolean there(int shape) {
        return both() || shape == firstShape();
    }

    private void come(int shape, int key, int version, List<Integer> row) {
        Write has = state.shapes.get(shape).get(key);
        if (has == null || has.version() <= version) {
            state.shapes.get(shape).put(key, new Write(key, version, over(row, shape), shape));
        }
    }

    private List<Integer> reads(int key, int costume) {
        Write latest = null;
        for (Write write : state.queue) {
            if (write.key() == key) {
                latest = write;
            }
        }
        if (latest != null && latest.shape() == costume) {
            return latest.row();
        }
        if (!there(costume)) {
            return over(rowOf(key, 1 - costume), costume);
        }
        if (state.phase == 1 && costume == 1 && latest == null && !state.shapes.get(1).containsKey(key)) {
            return over(rowOf(key, 0), 1);
        }
        return rowOf(key, costume);
    }

    private List<Integer> rowOf(int key, int shape) {
        Write has = state.shapes.get(shape).get(key);
        return has == null ? null : has.row();
    }

    private int versionOf(int key, int shape) {
        Write has = state.shapes.get(shape).get(key);
        return has == null ? 0 : has.version();
    }

    private static boolean unlike(Object one, Object other) {
        return one == null ? other != null : !one.equals(other);
    }

    private boolean differs(int key) {
        return versionOf(key, 0) != versionOf(key, 1) || unlike(rowOf(key, 0), over(rowOf(key, 1), 0));
    }

    private int differing() {
        int set = 0;
        for (int key = 0; key <= 30; key++) {
            set += differs(key) ? 1 << key : 0;
        }
        return set;
    }

    private boolean ready() {
        return state.phase == 1 && state.pointer == 31 && state.queue.isEmpty() && differing() == 0;
    }

    private int rows(int shape) {
        return (int) state.shapes.get(shape).values().stream().filter(write -> write.row() != null).count();
    }

    private int strange() {
        return (int) state.shapes.get(1).values().stream()
                .filter(write -> write.row() != null && write.row().get(1) > 1).count();
    }

    private void record(State before) {
        history.addLast(before);
        if (history.size() == 5) {
            history.removeFirst();
        }
    }

    /** Makes a call; changes are recorded if they are no errors. */
    int call(String name, int... n) {
        switch (name) {
            case "read", "shapeOf", "queued", "keys", "check", "quarrel", "atRisk", "count":
                return look(name, n);
            case "undo":
                return undo();
            case "type", "clearText", "fault":
                return text(name, n);
            default:
                State before = state.copy();
                int answer = name.equals("play") ? play() : change(name, n);
                if (answer < 0) {
                    state = before;
                } else {
                    record(before);
                }
                return answer;
        }
    }

    // ---- the changes

    private int change(String name, int... n) {
        switch (name) {
            case "begin":
                if (state.phase != 0) {
                    return NO;
                }
                state.phase = 1;
                state.pointer = 0;
                return rows(0);
            case "turn":
                if (!ready()) {
                    return NO;
                }
                state.phase = 2;
                return rows(1);
            case "back":
                if (!both() || !state.queue.isEmpty()) {
                    return NO;
                }
                state.phase--;
                state.pointer = 31;
                if (state.phase == 0) {
                    state.shapes.get(1).clear();
                }
                return state.phase;
            case "drop":
                if (state.phase != 2 || !state.queue.isEmpty() || differing() != 0) {
                    return NO;
                }
                state.phase = 3;
                state.shapes.get(0).clear();
                return strange();
            case "writeOld":
                boolean badOld = out(n[0], 0, 30) || out(n[1], 0, 99) || out(n[2], 0, 9) || out(n[3], 0, 1);
                return badOld ? BAD : write(n[0], List.of(n[1], n[2], n[3]));
            case "writeNew":
                boolean badNew = out(n[0], 0, 30) || out(n[1], 0, 999) || out(n[2], 0, 3);
                return badNew ? BAD : write(n[0], List.of(n[1], n[2]));
            case "remove":
                if (out(n[0], 0, 30)) {
                    return BAD;
                }
                return rowOf(n[0], firstShape()) == null ? NO : write(n[0], null);
            case "drain":
                return drain(n[0]);
            case "backfill":
                return backfill(n[0]);
            case "crash":
                int many = state.queue.size();
                state.queue.clear();
                state.lost += many;
                return many == 0 ? NO : many;
            case "mend":
                return mend(n[0]);
            case "walk":
                if (out(n[0], 0, 2) || out(n[1], 0, 1)) {
                    return BAD;
                }
                state.walks.put(n[0], new int[] {n[1], -1});
                return Integer.bitCount(look("keys", n[1]));
            case "step":
                return step(n[0]);
            default:
                throw new IllegalArgumentException(name);
        }
    }

    private int write(int key, List<Integer> row) {
        if (both() && state.queue.size() == 8 || state.version == 100000) {
            return FULL;
        }
        state.version++;
        state.lastVersions.put(key, state.version);
        come(firstShape(), key, state.version, row);
        if (both()) {
            int other = 1 - firstShape();
            state.queue.add(new Write(key, state.version, over(row, other), other));
        }
        return state.version;
    }

    private int drain(int many) {
        if (out(many, 1, 8)) {
            return BAD;
        }
        if (state.queue.isEmpty()) {
            return NO;
        }
        for (int i = 0; i < many && !state.queue.isEmpty(); i++) {
            Write write = state.queue.remove(0);
            come(write.shape(), write.key(), write.version(), write.row());
        }
        return state.queue.size();
    }

    private int backfill(int many) {
        if (out(many, 1, 31)) {
            return BAD;
        }
        if (state.phase != 1 || state.pointer == 31) {
            return NO;
        }
        int got = 0;
        for (int i = 0; i < many && state.pointer < 31; i++) {
            Write has = state.shapes.get(0).get(state.pointer);
            if (has != null && versionOf(state.pointer, 1) < has.version()) {
                come(1, state.pointer, has.version(), has.row());
                got++;
            }
            state.pointer++;
        }
        return got;
    }

    private int mend(int key) {
        if (out(key, 0, 30)) {
            return BAD;
        }
        if (!both() || state.queue.stream().anyMatch(write -> write.key() == key)) {
            return NO;
        }
        if (!differs(key)) {
            return 0;
        }
        int to = 1 - firstShape();
        if (versionOf(key, 0) != versionOf(key, 1)) {
            to = versionOf(key, 0) < versionOf(key, 1) ? 0 : 1;
        }
        Write better = state.shapes.get(1 - to).get(key);
        state.shapes.get(to).put(key, new Write(key, better.version(), over(better.row(), to), to));
        return 1;
    }

    private int step(int number) {
        if (out(number, 0, 2)) {
            return BAD;
        }
        int[] walk = state.walks.get(number);
        if (walk == null) {
            return NO;
        }
        for (int key = walk[1] + 1; key <= 30; key++) {
            if (reads(key, walk[0]) != null) {
                walk[1] = key;
                return key;
            }
        }
        state.walks.remove(number);
        return 31;
    }

    private int undo() {
        if (history.isEmpty()) {
            return NO;
        }
        state = history.removeLast();
        return history.size();
    }

    // ---- the reading

    private int look(String name, int... n) {
        switch (name) {
            case "read":
                if (out(n[0], 0, 30) || out(n[1], 0, 1) || out(n[2], 0, 2 - n[1])) {
                    return BAD;
                }
                List<Integer> row = reads(n[0], n[1]);
                return row == null ? NONE : row.get(n[2]);
            case "shapeOf":
                return shapeOf(n[0], n[1], n[2]);
            case "queued":
                if (n[0] < 0 || out(n[1], 0, 3)) {
                    return BAD;
                }
                if (n[0] >= state.queue.size()) {
                    return NONE;
                }
                Write write = state.queue.get(n[0]);
                int[] told = {write.key(), write.version(), write.shape(), write.row() == null ? 1 : 0};
                return told[n[1]];
            case "check":
                return both() ? differing() : NO;
            case "count":
                return count(n[0]);
            case "atRisk":
                return state.phase == 3 ? NO : sets(name, 0);
            default:
                return name.equals("keys") && out(n[0], 0, 1) ? BAD : sets(name, n.length == 0 ? 0 : n[0]);
        }
    }

    private int sets(String name, int costume) {
        int set = 0;
        for (int key = 0; key <= 30; key++) {
            boolean in = switch (name) {
                case "keys" -> reads(key, costume) != null;
                case "quarrel" -> unlike(reads(key, 0), over(reads(key, 1), 0));
                default -> versionOf(key, 0) != state.lastVersions.getOrDefault(key, 0);
            };
            set += in ? 1 << key : 0;
        }
        return set;
    }

    private int shapeOf(int key, int shape, int what) {
        if (out(key, 0, 30) || out(shape, 0, 1) || out(what, 0, 4)) {
            return BAD;
        }
        if (!there(shape)) {
            return NO;
        }
        List<Integer> row = rowOf(key, shape);
        if (what < 2) {
            return what == 0 ? versionOf(key, shape) : row == null ? 0 : 1;
        }
        return row == null || what - 2 >= row.size() ? NONE : row.get(what - 2);
    }

    private int count(int what) {
        if (out(what, 0, 12)) {
            return BAD;
        }
        int walks = state.walks.keySet().stream().mapToInt(number -> 1 << number).sum();
        int[] all = {state.phase, state.version, state.phase == 1 ? state.pointer : NONE, state.queue.size(), rows(0),
            rows(1), strange(), state.shapes.get(1).size(), ready() ? 1 : 0, state.lost, walks, history.size(),
            text.length()};
        return all[what];
    }

    // ---- the texts

    private static final Pattern ORDER = Pattern.compile(
            "(?:(o)#,#,#,#|(n)#,#,#|([xdbm])#|([tk]));".replace("#", "([0-9]{1,3})"));
    private static final Map<String, String> NAMES = Map.of("o", "writeOld", "n", "writeNew", "x", "remove",
            "d", "drain", "b", "backfill", "m", "mend", "t", "turn", "k", "back");

    private int text(String name, int... n) {
        if (name.equals("clearText")) {
            int length = text.length();
            text = "";
            return length;
        }
        if (name.equals("type")) {
            if (out(n[0], 32, 126)) {
                return BAD;
            }
            if (text.length() == 60) {
                return FULL;
            }
            text += (char) n[0];
            return text.length();
        }
        if (out(n[0], 0, 1)) {
            return BAD;
        }
        State before = state.copy();
        int[] fault = giveAll();
        state = before;
        return fault[1] == 0 ? NONE : fault[n[0]];
    }

    private int play() {
        int[] fault = giveAll();
        return fault[1] == 0 ? fault[2] : NO;
    }

    /** The place and the reason (0 for none) of the fault, and the number of orders ahead of it. */
    private int[] giveAll() {
        Matcher matcher = ORDER.matcher(text);
        int orders = 0;
        int place = 0;
        while (place < text.length()) {
            matcher.region(place, text.length());
            if (!matcher.lookingAt()) {
                return new int[] {place, 1, orders};
            }
            List<Integer> numbers = new ArrayList<>();
            String order = "";
            for (int group = 1; group <= matcher.groupCount(); group++) {
                String found = matcher.group(group);
                if (found != null && Character.isDigit(found.charAt(0))) {
                    numbers.add(Integer.valueOf(found));
                } else if (found != null) {
                    order = found;
                }
            }
            int answer = change(NAMES.get(order), numbers.stream().mapToInt(Integer::intValue).toArray());
            if (answer < 0) {
                return new int[] {place, answer == BAD ? 2 : 3, orders};
            }
            orders++;
            place = matcher.end();
        }
        return new int[] {0, 0, orders};
    }
}
