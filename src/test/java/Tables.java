/** Makes the tables that several tests begin with. */
final class Tables {
    private Tables() {
    }

    static void type(TwoShapes x, String text) {
        for (char sign : text.toCharArray()) {
            x.type(sign);
        }
    }

    static TwoShapes withText(TwoShapes x, String text) {
        x.clearText();
        type(x, text);
        return x;
    }

    /** Phase 0, with rows 3 (12, 3, 1) and 5 (4, 5, 0), and 7 removed: versions 1, 2 and 4. */
    static TwoShapes old() {
        TwoShapes x = new TwoShapes();
        x.writeOld(3, 12, 3, 1);
        x.writeOld(5, 4, 5, 0);
        x.writeOld(7, 9, 9, 1);
        x.remove(7);
        return x;
    }

    /** The same in the phase 1, with the pointer at 0. */
    static TwoShapes both() {
        TwoShapes x = old();
        x.begin();
        return x;
    }

    /** The same in the phase 1, ready. */
    static TwoShapes ready() {
        TwoShapes x = both();
        x.backfill(31);
        return x;
    }

    /** The same in the phase 2. */
    static TwoShapes turned() {
        TwoShapes x = ready();
        x.turn();
        return x;
    }

    /** The same in the phase 3. */
    static TwoShapes dropped() {
        TwoShapes x = turned();
        x.drop();
        return x;
    }
}
