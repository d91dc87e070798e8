import java.lang.reflect.Method;
import java.util.Arrays;
import java.util.HashMap;
import java.util.Map;
import java.util.TreeMap;

/** Runs of 512 calls, the same each time, whose answers have to be those of the model. */
final class RandomRunsTest {
    private static final int RUNS = 1500;
    private static final int CALLS = 512;
    private static final int LOOK_EVERY = 8;

    // Each call with the lowest and the highest argument that is in range.
    private static final Map<String, int[][]> CALLS_BY_NAME = new TreeMap<>();
    private static final String[] OFTEN = {"begin", "turn", "back", "drop", "writeOld", "writeNew", "writeNew", "remove",
        "drain", "drain", "backfill", "backfill", "crash", "mend", "mend", "walk", "step", "step", "undo", "text", "play"};
    private static final Map<String, Method> METHODS = new HashMap<>();
    private static final Map<String, Integer> GOOD = new TreeMap<>();

    private long seed;

    public static void main(String[] args) throws ReflectiveOperationException {
        put("begin");
        put("turn");
        put("back");
        put("drop");
        put("writeOld", 0, 30, 0, 99, 0, 9, 0, 1);
        put("writeNew", 0, 30, 0, 999, 0, 3);
        put("remove", 0, 30);
        put("drain", 1, 8);
        put("backfill", 1, 31);
        put("crash");
        put("mend", 0, 30);
        put("read", 0, 30, 0, 1, 0, 2);
        put("shapeOf", 0, 30, 0, 1, 0, 4);
        put("queued", 0, 7, 0, 3);
        put("keys", 0, 1);
        put("check");
        put("quarrel");
        put("atRisk");
        put("walk", 0, 2, 0, 1);
        put("step", 0, 2);
        put("count", 0, 12);
        put("undo");
        put("type", 32, 126);
        put("clearText");
        put("fault", 0, 1);
        put("play");
        for (Method method : TwoShapes.class.getMethods()) {
            METHODS.put(method.getName(), method);
        }
        for (int run = 0; run < RUNS; run++) {
            new RandomRunsTest(run).run(run);
        }
        for (String name : CALLS_BY_NAME.keySet()) {
            Due.due("some good answers of " + name, 1, GOOD.getOrDefault(name, 0) > 100 ? 1 : 0);
        }
        Due.end();
    }

    private static void put(String name, int... ranges) {
        int[][] pairs = new int[ranges.length / 2][];
        for (int i = 0; i < pairs.length; i++) {
            pairs[i] = Arrays.copyOfRange(ranges, 2 * i, 2 * i + 2);
        }
        CALLS_BY_NAME.put(name, pairs);
    }

    private RandomRunsTest(int run) {
        seed = 7919L * run + 1;
    }

    private int below(int bound) {
        seed = seed * 6364136223846793005L + 1442695040888963407L;
        return (int) ((seed >>> 33) % bound);
    }

    private void run(int run) throws ReflectiveOperationException {
        TwoShapes table = new TwoShapes();
        Model model = new Model();
        int keys = new int[] {2, 5, 31}[run % 3];
        // Runs in which phases end seldom, in which wrong arguments come seldom, and others.
        boolean steady = run % 2 == 0;
        boolean wild = run % 5 == 0;
        boolean alike = true;
        int calls = 0;
        while (alike && calls < CALLS) {
            String name = OFTEN[below(OFTEN.length)];
            if (steady && (name.equals("undo") || name.equals("crash") || name.equals("back")) && below(4) > 0) {
                name = "backfill";
            }
            if (name.equals("text")) {
                String text = text(keys);
                alike &= same(run, calls, table, model, "clearText");
                for (int i = 0; i < text.length(); i++) {
                    alike &= same(run, calls, table, model, "type", text.charAt(i));
                }
                alike &= same(run, calls, table, model, "fault", 0);
                alike &= same(run, calls, table, model, "fault", 1);
                name = "play";
                calls += text.length() + 3;
            }
            alike &= same(run, calls, table, model, name, arguments(name, keys, wild));
            calls++;
            alike &= look(run, calls, table, model, keys, wild);
            if (calls % LOOK_EVERY == 0) {
                alike &= lookAtAll(run, calls, table, model);
            }
        }
    }

    private int[] arguments(String name, int keys, boolean wild) {
        int[][] ranges = CALLS_BY_NAME.get(name);
        int[] numbers = new int[ranges.length];
        for (int i = 0; i < numbers.length; i++) {
            int low = ranges[i][0];
            int high = ranges[i][1] == 30 ? keys - 1 : ranges[i][1];
            numbers[i] = low + below(high - low + 1);
            if (below(wild ? 8 : 60) == 0) {
                int[] edges = {low - 1, ranges[i][1] + 1, low, ranges[i][1], Integer.MIN_VALUE, Integer.MAX_VALUE};
                numbers[i] = edges[below(edges.length)];
            }
        }
        return numbers;
    }

    private String text(int keys) {
        StringBuilder text = new StringBuilder();
        int orders = below(7);
        for (int i = 0; i < orders; i++) {
            String[] forms = {"o" + below(keys) + ",0" + below(99) + "," + below(10) + "," + below(2),
                "n" + below(keys) + "," + below(1000) + "," + below(4), "x" + below(keys), "d" + below(9),
                "d8", "b" + below(32), "b31", "m" + below(keys), "t", "k"};
            text.append(forms[below(forms.length)]).append(';');
        }
        String signs = "onxdbmtk;,0123456789 q";
        if (text.length() > 0 && below(4) == 0) {
            text.setCharAt(below(text.length()), signs.charAt(below(signs.length())));
        }
        return text.toString();
    }

    private boolean look(int run, int calls, TwoShapes table, Model model, int keys, boolean wild)
            throws ReflectiveOperationException {
        boolean alike = true;
        for (String name : new String[] {"read", "shapeOf", "queued", "keys", "check", "quarrel", "atRisk", "count"}) {
            alike &= same(run, calls, table, model, name, arguments(name, keys, wild));
        }
        return alike;
    }

    private boolean lookAtAll(int run, int calls, TwoShapes table, Model model) throws ReflectiveOperationException {
        boolean alike = true;
        for (String name : new String[] {"read", "shapeOf", "queued", "keys", "check", "quarrel", "atRisk", "count"}) {
            int[][] ranges = CALLS_BY_NAME.get(name);
            int[] numbers = new int[ranges.length];
            for (int i = 0; i < numbers.length; i++) {
                numbers[i] = ranges[i][0];
            }
            int at = 0;
            while (at < numbers.length || numbers.length == 0) {
                alike &= same(run, calls, table, model, name, numbers);
                for (at = 0; at < numbers.length && numbers[at] == ranges[at][1]; at++) {
                    numbers[at] = ranges[at][0];
                }
                if (at == numbers.length) {
                    break;
                }
                numbers[at]++;
            }
        }
        return alike;
    }

    private static boolean same(int run, int calls, TwoShapes table, Model model, String name, int... numbers)
            throws ReflectiveOperationException {
        int want = model.call(name, numbers);
        Object[] given = Arrays.stream(numbers).boxed().toArray();
        int got = (Integer) METHODS.get(name).invoke(table, given);
        Due.due("run " + run + ", call " + calls + ": " + name + Arrays.toString(numbers), want, got);
        if (want >= 0) {
            GOOD.merge(name, 1, Integer::sum);
        }
        return want == got;
    }
}
