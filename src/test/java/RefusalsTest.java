/**
 * What each call answers in each situation, for arguments in their ranges; a refused one changes
 * nothing. A row tells the situations in their order, the phases apart: 'P' for NOT_POSSIBLE, 'L'
 * for LIMIT_REACHED, 'F' for NOT_FOUND, '+' for an answer that is no error.
 */
final class RefusalsTest {
    private static final String[] ROWS = {
        // the phases:    0  1       2    3
        "begin          | ++ PPPPPPP PPPP P",
        "turn           | PP PPP+PPP PPPP P",
        "back           | PP +P++P+P +P+P P",
        "drop           | PP PPPPPPP +PPP P",

        "writeOld 3 1 1 1 | ++ +L++++L +++L +",
        "writeOld 9 0 0 0 | ++ +L++++L +++L +",
        "writeNew 3 1 1 | ++ +L++++L +++L +",
        "writeNew 9 0 0 | ++ +L++++L +++L +",
        "remove 3       | P+ +L++++L +++L +",
        "remove 7       | PP PPPPPPP PPPP P",
        "remove 9       | PP PPPPPPP PPPP P",
        "drain 1        | PP P+PP+P+ P+P+ P",
        "drain 8        | PP P+PP+P+ P+P+ P",
        "backfill 1     | PP +++PPPP PPPP P",
        "backfill 31    | PP +++PPPP PPPP P",
        "crash          | PP P+PP+P+ P+P+ P",
        // A write of key 3 is in the queue, none of key 5 is.
        "mend 3         | PP +P++P+P +P+P P",
        "mend 5         | PP +++++++ ++++ P",

        "read 3 0 0     | F+ +++++++ ++++ +",
        "read 3 1 1     | F+ +++++++ ++++ +",
        "read 7 0 2     | FF FFFFFFF FFFF F",
        "read 7 1 0     | FF FFFFFFF FFFF F",
        "read 9 0 0     | FF FFFFFFF FFFF F",
        "read 9 1 1     | FF FFFFFFF FFFF F",
        "shapeOf 3 0 0  | ++ +++++++ ++++ P",
        "shapeOf 3 0 4  | F+ +++++++ ++++ P",
        "shapeOf 7 0 1  | ++ +++++++ ++++ P",
        "shapeOf 7 0 2  | FF FFFFFFF FFFF P",
        "shapeOf 9 0 4  | FF FFFFFFF FFFF P",
        "shapeOf 3 1 0  | PP +++++++ ++++ +",
        "shapeOf 3 1 1  | PP +++++++ ++++ +",
        "shapeOf 3 1 2  | PP FF+++++ ++++ +",
        "shapeOf 3 1 3  | PP FF+++++ ++++ +",
        "shapeOf 3 1 4  | PP FFFFFFF FFFF F",
        "shapeOf 9 1 2  | PP FFFFFFF FFFF F",
        "queued 0 0     | FF F+FF+F+ F+F+ F",
        "queued 1 3     | FF F+FFFF+ FFF+ F",
        "queued 7 1     | FF F+FFFF+ FFF+ F",
        "queued 8 2     | FF FFFFFFF FFFF F",
        "queued 2147483647 0 | FF FFFFFFF FFFF F",
        "keys 0         | ++ +++++++ ++++ +",
        "keys 1         | ++ +++++++ ++++ +",
        "check          | PP +++++++ ++++ P",
        "quarrel        | ++ +++++++ ++++ +",
        "atRisk         | ++ +++++++ ++++ P",

        "walk 0 0       | ++ +++++++ ++++ +",
        "walk 2 1       | ++ +++++++ ++++ +",
        "step 0         | P+ +++++++ ++++ +",
        "step 1         | PP PPPPPPP PPPP P",
        "step 2         | P+ +++++++ ++++ +",
        "count 0        | ++ +++++++ ++++ +",
        "count 1        | ++ +++++++ ++++ +",
        "count 2        | FF +++++++ FFFF F",
        "count 3        | ++ +++++++ ++++ +",
        "count 4        | ++ +++++++ ++++ +",
        "count 5        | ++ +++++++ ++++ +",
        "count 6        | ++ +++++++ ++++ +",
        "count 7        | ++ +++++++ ++++ +",
        "count 8        | ++ +++++++ ++++ +",
        "count 9        | ++ +++++++ ++++ +",
        "count 10       | ++ +++++++ ++++ +",
        "count 11       | ++ +++++++ ++++ +",
        "count 12       | ++ +++++++ ++++ +",
        "undo           | P+ +++++++ ++++ +",

        "type 32        | ++ +++++++ ++++ +",
        "type 126       | ++ +++++++ ++++ +",
        "clearText      | ++ +++++++ ++++ +",
        "fault 0        | F+ +++++++ ++++ +",
        "fault 1        | F+ +++++++ ++++ +",
        "play           | +P PPPPPPP PPPP P",
    };

    public static void main(String[] args) {
        for (String row : ROWS) {
            int bar = row.indexOf('|');
            inAllSituations(Call.of(row.substring(0, bar)), row.substring(bar + 1).replace(" ", ""));
        }
        emptiedHistory();
        fullText();
        Due.end();
    }

    private static void inAllSituations(Call call, String dues) {
        Due.due("situations of " + call, Situation.values().length, dues.length());
        for (Situation s : Situation.values()) {
            int due = error(dues.charAt(s.ordinal()));
            if (due == 0) {
                Due.due(call + " in " + s + " is no error", 1, call.on(s.made()) >= 0 ? 1 : 0);
            } else {
                Twins.refused(s.name(), s::made, call, due);
            }
        }
    }

    private static int error(char sign) {
        return switch (sign) {
            case 'P' -> TwoShapes.NOT_POSSIBLE;
            case 'L' -> TwoShapes.LIMIT_REACHED;
            case 'F' -> TwoShapes.NOT_FOUND;
            default -> 0;
        };
    }

    private static void emptiedHistory() {
        for (Situation s : Situation.values()) {
            Twins.refused(s + ", undone", () -> s.and("undo; undo; undo; undo"), new Call("undo"), TwoShapes.NOT_POSSIBLE);
        }
    }

    private static void fullText() {
        for (Situation s : Situation.values()) {
            String more = "clearText;" + "type 116;".repeat(60);
            Twins.refused(s + ", text full", () -> s.and(more), new Call("type", ';'), TwoShapes.LIMIT_REACHED);
        }
    }
}
