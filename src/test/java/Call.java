import java.util.ArrayList;
import java.util.Arrays;
import java.util.List;

/** A call by its name and arguments, so that a test can go through calls as through data. */
record Call(String name, int... arguments) {
    /** Reads one call, as "remove 3". */
    static Call of(String text) {
        String[] parts = text.trim().split(" ");
        int[] arguments = Arrays.stream(parts).skip(1).mapToInt(Integer::parseInt).toArray();
        return new Call(parts[0], arguments);
    }

    /** Reads calls with ";" between them. */
    static List<Call> all(String text) {
        List<Call> calls = new ArrayList<>();
        for (String part : text.split(";")) {
            if (!part.isBlank()) {
                calls.add(of(part));
            }
        }
        return calls;
    }

    /** Makes the calls on a table, and returns it. */
    static TwoShapes make(TwoShapes x, String text) {
        for (Call call : all(text)) {
            call.on(x);
        }
        return x;
    }

    Call with(int position, int argument) {
        int[] others = arguments.clone();
        others[position] = argument;
        return new Call(name, others);
    }

    int on(TwoShapes x) {
        int[] n = arguments;
        return switch (name) {
            case "begin" -> x.begin();
            case "turn" -> x.turn();
            case "back" -> x.back();
            case "drop" -> x.drop();
            case "writeOld" -> x.writeOld(n[0], n[1], n[2], n[3]);
            case "writeNew" -> x.writeNew(n[0], n[1], n[2]);
            case "remove" -> x.remove(n[0]);
            case "drain" -> x.drain(n[0]);
            case "backfill" -> x.backfill(n[0]);
            case "crash" -> x.crash();
            case "mend" -> x.mend(n[0]);
            case "read" -> x.read(n[0], n[1], n[2]);
            case "shapeOf" -> x.shapeOf(n[0], n[1], n[2]);
            case "queued" -> x.queued(n[0], n[1]);
            case "keys" -> x.keys(n[0]);
            case "check" -> x.check();
            case "quarrel" -> x.quarrel();
            case "atRisk" -> x.atRisk();
            case "walk" -> x.walk(n[0], n[1]);
            case "step" -> x.step(n[0]);
            case "count" -> x.count(n[0]);
            case "undo" -> x.undo();
            case "type" -> x.type(n[0]);
            case "clearText" -> x.clearText();
            case "fault" -> x.fault(n[0]);
            case "play" -> x.play();
            default -> throw new IllegalArgumentException(name);
        };
    }

    @Override
    public String toString() {
        String numbers = Arrays.toString(arguments);
        return name + "(" + numbers.substring(1, numbers.length() - 1) + ")";
    }
}
