import java.util.List;
import java.util.function.Supplier;

/** Compares tables that must answer alike whatever they are asked. */
final class Twins {
    private Twins() {
    }

    /** Asks tables made by the one and by the other, fresh ones for each list of calls. */
    static void alike(String what, List<List<Call>> looks, Supplier<TwoShapes> due, Supplier<TwoShapes> made) {
        for (List<Call> look : looks) {
            TwoShapes x = due.get();
            TwoShapes y = made.get();
            for (Call call : look) {
                int want = call.on(x);
                int got = call.on(y);
                if (want != got) {
                    Due.due(what + ", then " + call, want, got);
                }
            }
        }
    }

    /** A call that returns an error changes nothing. */
    static void refused(String where, Supplier<TwoShapes> table, Call call, int error) {
        Due.due(call + " in " + where, error, call.on(table.get()));
        alike(call + " in " + where, Looks.ALL, table, () -> {
            TwoShapes x = table.get();
            call.on(x);
            return x;
        });
    }
}
