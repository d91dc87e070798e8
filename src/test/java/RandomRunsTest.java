import java.util.List;
import java.util.Map;
import java.util.TreeMap;

/** Runs of 512 calls, the same each time, whose answers have to be those of the model. */
final class RandomRunsTest {
    private static final int RUNS = 12000;
    private static final int CALLS = 512;
    private static final int ENOUGH = 100;

    // Each call with the lowest and the highest of each argument that is in range.
    private static final Map<String, int[]> RANGES = new TreeMap<>(Map.ofEntries(
            Map.entry("begin", new int[] {}), Map.entry("turn", new int[] {}),
            Map.entry("back", new int[] {}), Map.entry("drop", new int[] {}),
            Map.entry("writeOld", new int[] {0, 30, 0, 99, 0, 9, 0, 1}),
            Map.entry("writeNew", new int[] {0, 30, 0, 999, 0, 3}),
            Map.entry("remove", new int[] {0, 30}), Map.entry("drain", new int[] {1, 8}),
            Map.entry("backfill", new int[] {1, 31}), Map.entry("crash", new int[] {}),
            Map.entry("mend", new int[] {0, 30}), Map.entry("read", new int[] {0, 30, 0, 1, 0, 2}),
            Map.entry("shapeOf", new int[] {0, 30, 0, 1, 0, 4}), Map.entry("queued", new int[] {0, 7, 0, 3}),
            Map.entry("keys", new int[] {0, 1}), Map.entry("check", new int[] {}),
            Map.entry("quarrel", new int[] {}), Map.entry("atRisk", new int[] {}),
            Map.entry("walk", new int[] {0, 2, 0, 1}), Map.entry("step", new int[] {0, 2}),
            Map.entry("count", new int[] {0, 12}), Map.entry("undo", new int[] {}),
            Map.entry("type", new int[] {32, 126}), Map.entry("clearText", new int[] {}),
            Map.entry("fault", new int[] {0, 1}), Map.entry("play", new int[] {})));
    private static final String[] CHANGES = {"begin", "turn", "back", "drop", "writeOld", "writeNew", "writeNew", "remove",
        "drain", "drain", "backfill", "backfill", "crash", "mend", "mend", "walk", "step", "step", "undo", "text", "play"};
    private static final String[] LOOKS = {"read", "shapeOf", "queued", "keys", "check", "quarrel", "atRisk", "count"};
    private static final Map<String, Integer> GOOD = new TreeMap<>();

    private final TwoShapes table = new TwoShapes();
    private final Model model = new Model();
    private final int run;
    private final int keys;
    private final boolean wild;
    private long seed;
    private int calls;
    private boolean alike = true;

    public static void main(String[] args) {
        for (int run = 0; run < RUNS; run++) {
            new RandomRunsTest(run).run();
        }
        for (String name : RANGES.keySet()) {
            Due.due("enough good answers of " + name, 1, GOOD.getOrDefault(name, 0) > ENOUGH ? 1 : 0);
        }
        Due.end();
    }

    private RandomRunsTest(int run) {
        this.run = run;
        seed = 7919L * run + 1;
        // Runs on few keys and on all, in which wrong arguments come often and seldom.
        keys = new int[] {2, 5, 31}[run % 3];
        wild = run % 5 == 0;
    }

    private int below(int bound) {
        seed = seed * 6364136223846793005L + 1442695040888963407L;
        return (int) ((seed >>> 33) % bound);
    }

    /** Changes and single looks by turns, and a look at all that one of the lists tells in the end. */
    private void run() {
        List<Call> last = Looks.ALL.get(run % Looks.ALL.size());
        // Runs in which phases end seldom, and others.
        boolean steady = run % 2 == 0;
        while (alike && calls < CALLS - last.size()) {
            String name = CHANGES[below(CHANGES.length)];
            if (steady && (name.equals("undo") || name.equals("crash") || name.equals("back")) && below(4) > 0) {
                name = "backfill";
            }
            if (name.equals("text")) {
                typeText();
                name = "play";
            }
            same(withArguments(name));
            for (int looks = below(4); looks > 0; looks--) {
                same(withArguments(LOOKS[below(LOOKS.length)]));
            }
        }
        for (Call call : last) {
            same(call);
        }
    }

    private Call withArguments(String name) {
        int[] ranges = RANGES.get(name);
        int[] numbers = new int[ranges.length / 2];
        for (int i = 0; i < numbers.length; i++) {
            int low = ranges[2 * i];
            int high = ranges[2 * i + 1];
            numbers[i] = low + below((high == 30 ? keys : high + 1) - low);
            if (below(wild ? 8 : 60) == 0) {
                int[] edges = {low - 1, high + 1, low, high, Integer.MIN_VALUE, Integer.MAX_VALUE};
                numbers[i] = edges[below(edges.length)];
            }
        }
        return new Call(name, numbers);
    }

    private void typeText() {
        String text = text();
        same(new Call("clearText"));
        for (int i = 0; i < text.length(); i++) {
            same(new Call("type", text.charAt(i)));
        }
        same(new Call("fault", 0));
        same(new Call("fault", 1));
    }

    private String text() {
        StringBuilder text = new StringBuilder();
        int orders = below(7);
        for (int i = 0; i < orders; i++) {
            String[] forms = {"o" + below(keys) + ",0" + below(99) + "," + below(10) + "," + below(2),
                "n" + below(keys) + "," + below(1000) + "," + below(4), "x" + below(keys), "d" + below(9),
                "d8", "b" + below(32), "b31", "m" + below(keys), "t", "k"};
            text.append(forms[below(forms.length)]).append(';');
        }
        String signs = "onxdbmtk;,0123456789 q";
        if (text.length() > 0 && below(4) == 0) {
            text.setCharAt(below(text.length()), signs.charAt(below(signs.length())));
        }
        return text.toString();
    }

    /** Makes a call on both, as long as they were alike: behind a wrong answer all may be wrong. */
    private void same(Call call) {
        if (!alike || calls == CALLS) {
            return;
        }
        calls++;
        int want = model.call(call.name(), call.arguments());
        int got = call.on(table);
        if (want != got) {
            alike = false;
            Due.due("run " + run + ", call " + calls + ": " + call, want, got);
        } else if (want >= 0) {
            GOOD.merge(call.name(), 1, Integer::sum);
        }
    }
}
