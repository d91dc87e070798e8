/**
 * Each order of a text against the call that it stands for: its fault in each situation, and that
 * play does what the call does.
 */
final class OrdersTest {
    private static final int NONE = TwoShapes.NOT_FOUND;

    // An order, and the call for which it stands, each with the edges of its ranges.
    private static final String[] ORDERS = {
        "o0,0,0,0; writeOld 0 0 0 0", "o30,99,9,1; writeOld 30 99 9 1", "o3,98,7,0; writeOld 3 98 7 0",
        "o31,0,0,0; writeOld 31 0 0 0", "o999,0,0,0; writeOld 999 0 0 0", "o3,100,0,0; writeOld 3 100 0 0",
        "o3,999,0,0; writeOld 3 999 0 0", "o3,0,10,0; writeOld 3 0 10 0", "o3,0,999,0; writeOld 3 0 999 0",
        "o3,0,0,2; writeOld 3 0 0 2", "o3,0,0,999; writeOld 3 0 0 999", "o003,001,002,001; writeOld 3 1 2 1",
        "n0,0,0; writeNew 0 0 0", "n30,999,3; writeNew 30 999 3", "n3,123,2; writeNew 3 123 2",
        "n31,0,0; writeNew 31 0 0", "n999,0,0; writeNew 999 0 0", "n3,0,4; writeNew 3 0 4", "n3,0,999; writeNew 3 0 999",
        "n005,000,003; writeNew 5 0 3",
        "x3; remove 3", "x005; remove 5", "x7; remove 7", "x0; remove 0", "x30; remove 30", "x31; remove 31",
        "x999; remove 999",
        "d1; drain 1", "d08; drain 8", "d0; drain 0", "d9; drain 9", "d000; drain 0", "d999; drain 999",
        "b1; backfill 1", "b31; backfill 31", "b006; backfill 6", "b0; backfill 0", "b32; backfill 32", "b999; backfill 999",
        "m3; mend 3", "m05; mend 5", "m0; mend 0", "m30; mend 30", "m31; mend 31", "m999; mend 999",
        "t; turn", "k; back",
    };

    public static void main(String[] args) {
        for (String row : ORDERS) {
            int end = row.indexOf(';') + 1;
            String order = row.substring(0, end);
            Call call = Call.of(row.substring(end));
            for (Situation s : Situation.values()) {
                faultLikeError(s, order, call);
                faultBehindAnOrder(s, order, call);
                playLikeCall(s, order, call);
            }
        }
        Due.end();
    }

    private static int reason(int answer) {
        if (answer >= 0) {
            return NONE;
        }
        return answer == TwoShapes.INVALID_ARGUMENT ? 2 : 3;
    }

    /** "2 if a number is out of its range ..., and 3 if it is not possible otherwise" */
    private static void faultLikeError(Situation s, String order, Call call) {
        int due = reason(call.on(s.made()));
        TwoShapes x = Tables.withText(s.made(), order);
        Due.due(order + " in " + s, due, x.fault(1));
        Due.due(order + " in " + s, due == NONE ? NONE : 0, x.fault(0));
        Twins.alike("fault of " + order + " in " + s + " changes nothing", Looks.ALL,
                () -> Tables.withText(s.made(), order), () -> {
                    TwoShapes y = Tables.withText(s.made(), order);
                    y.fault(0);
                    y.fault(1);
                    return y;
                });
    }

    /** "when those ahead of it are done": the first of two orders is done, and the second one is asked then. */
    private static void faultBehindAnOrder(Situation s, String order, Call call) {
        TwoShapes first = s.made();
        if (call.on(first) < 0) {
            return;
        }
        int due = reason(call.on(first));
        TwoShapes x = Tables.withText(s.made(), order + order);
        Due.due(order + " twice in " + s, due, x.fault(1));
        Due.due(order + " twice in " + s, due == NONE ? NONE : order.length(), x.fault(0));
    }

    private static void playLikeCall(Situation s, String order, Call call) {
        int answer = call.on(s.made());
        if (answer < 0) {
            Twins.refused(s + " with " + order, () -> Tables.withText(s.made(), order), new Call("play"),
                    TwoShapes.NOT_POSSIBLE);
            return;
        }
        Due.due(order + " in " + s, 1, Tables.withText(s.made(), order).play());
        Twins.alike("play of " + order + " in " + s, Looks.ALL, () -> {
            TwoShapes x = Tables.withText(s.made(), order);
            call.on(x);
            return x;
        }, () -> {
            TwoShapes x = Tables.withText(s.made(), order);
            x.play();
            return x;
        });
    }
}
