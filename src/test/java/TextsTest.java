/** Promises 24 to 27: type, clearText, fault, play. */
final class TextsTest {
    private static final int BAD = TwoShapes.INVALID_ARGUMENT;
    private static final int NO = TwoShapes.NOT_POSSIBLE;
    private static final int NONE = TwoShapes.NOT_FOUND;

    public static void main(String[] args) {
        type();
        typeEachCharacter();
        clearText();
        clearFullText();
        noFault();
        badForm();
        digitsOfEachNumber();
        signsForDigits();
        missingEnds();
        outOfRange();
        notPossible();
        firstFault();
        faultNow();
        faultChangesNothing();
        play();
        playIsOneChange();
        playEachOrder();
        playWithFault();
        fullText();
        lastPlaceOfText();
        Due.end();
    }

    private static void type() {
        TwoShapes x = new TwoShapes();
        Due.due(BAD, x.type(31));
        Due.due(BAD, x.type(127));
        Due.due(BAD, x.type(-1));
        Due.due(BAD, x.type(Integer.MAX_VALUE));
        Due.due(1, x.type(32));
        for (int i = 2; i <= 60; i++) {
            Due.due(i, x.type(126));
        }
        Due.due(TwoShapes.LIMIT_REACHED, x.type(';'));
        Due.due(BAD, x.type(31));
        Due.due(60, x.count(12));
    }

    private static void typeEachCharacter() {
        TwoShapes x = new TwoShapes();
        for (int character = 32; character <= 126; character++) {
            int typed = character - 32;
            if (typed == 60) {
                x.clearText();
            }
            Due.due(typed % 60 + 1, x.type(character));
        }
        Due.due(35, x.count(12));
    }

    private static void clearFullText() {
        TwoShapes x = new TwoShapes();
        Tables.type(x, "t".repeat(60));
        Due.due(60, x.count(12));
        Due.due(60, x.clearText());
        Due.due(0, x.count(12));
        Due.due(1, x.type('t'));
        Due.due(1, x.clearText());
        Due.due(0, x.clearText());
    }

    private static void clearText() {
        TwoShapes x = new TwoShapes();
        Due.due(0, x.clearText());
        Tables.type(x, "o1,1");
        Due.due(4, x.clearText());
        Due.due(0, x.count(12));
        Due.due(0, x.clearText());
        Due.due(1, x.type('o'));
        Due.due("nothing is left of what was", 1, x.fault(1));
        x.clearText();
        Due.due("an empty text has no fault", NONE, x.fault(0));
        Due.due(NONE, x.fault(1));
        Due.due(0, x.play());
    }

    private static void faultIs(TwoShapes x, String text, int place, int reason) {
        Tables.withText(x, text);
        Due.due(text, place, x.fault(0));
        Due.due(text, reason, x.fault(1));
        if (reason != NONE) {
            Due.due(text, NO, x.play());
        }
    }

    private static void noFault() {
        TwoShapes x = new TwoShapes();
        Due.due(BAD, x.fault(-1));
        Due.due(BAD, x.fault(2));
        Due.due(NONE, x.fault(0));
        Due.due(NONE, x.fault(1));
        faultIs(x, "o0,0,0,0;", NONE, NONE);
        faultIs(x, "o000,099,009,001;", NONE, NONE);
        faultIs(x, "n30,999,3;x030;", NONE, NONE);
        faultIs(Tables.both(), "b031;o1,1,1,1;d008;m00;", NONE, NONE);
    }

    private static void badForm() {
        String[] texts = {";", " ", "q;", "O1,1,1,1;", "o1,1,1,1", "o1,1,1,1,1;", "o1,1,1;", "o,1,1,1;", "o1,,1,1;",
            "o1;1,1,1;", "o0001,1,1,1;", "o1,1,1,1 ;", "o 1,1,1,1;", "o1 ,1,1,1;", "n1,1;", "n1,1,1,1;", "n1,1000,1;",
            "n1,-1,1;", "x;", "x", "x1", "x1,1;", "x0001;", "d;", "d1,2;", "b;", "b1,1;", "m;", "mm1;", "t", "t1;",
            "t ;", "k", "k0;", "o", "1;", "n1,1,+1;", "n1,1,1:", "x/;", "x:;", "t1", "kt;"};
        TwoShapes x = Tables.ready();
        for (String text : texts) {
            faultIs(x, text, 0, 1);
        }
        faultIs(x, "o1,1,1,1;;", 9, 1);
        faultIs(x, "o1,1,1,1; o1,1,1,1;", 9, 1);
        faultIs(x, "o1,1,1,1;o1,1,1,1", 9, 1);
    }

    // Each order, with "#" for the number that the tests change.
    private static final String[] NUMBERS = {"o#,1,1,1;", "o1,#,1,1;", "o1,1,#,1;", "o1,1,1,#;", "n#,1,1;", "n1,#,1;",
        "n1,1,#;", "x#;", "d#;", "b#;", "m#;"};

    /** A table in which each order of NUMBERS with a 1 is possible. */
    private static TwoShapes willing() {
        TwoShapes x = Tables.both();
        x.writeOld(1, 1, 1, 1);
        x.drain(1);
        x.writeOld(2, 1, 1, 1);
        return x;
    }

    /** "numbers of 1 to 3 digits, 0 ahead allowed" */
    private static void digitsOfEachNumber() {
        for (String order : NUMBERS) {
            faultIs(willing(), order.replace("#", ""), 0, 1);
            faultIs(willing(), order.replace("#", "1"), NONE, NONE);
            faultIs(willing(), order.replace("#", "01"), NONE, NONE);
            faultIs(willing(), order.replace("#", "001"), NONE, NONE);
            faultIs(willing(), order.replace("#", "0001"), 0, 1);
            faultIs(willing(), order.replace("#", "1000"), 0, 1);
        }
    }

    /** The signs next to the digits and to ";", and others that are no digits. */
    private static void signsForDigits() {
        for (String order : NUMBERS) {
            for (String sign : new String[] {"/", ":", ";", "<", " ", "-", "+", "a", "~", "1/", ":1", "1 ", " 1", "-1", "1.",
                ",", "1,", ",1", ",,"}) {
                faultIs(willing(), order.replace("#", sign), 0, 1);
            }
        }
    }

    /** "if it is not of this form, its ';' included" */
    private static void missingEnds() {
        for (String order : NUMBERS) {
            String whole = "t;" + order.replace("#", "1");
            for (int length = 3; length < whole.length(); length++) {
                faultIs(Tables.ready(), whole.substring(0, length), 2, 1);
            }
            String other = order.replace("#", "1").replace(";", ":");
            faultIs(willing(), other, 0, 1);
        }
        faultIs(Tables.ready(), "t", 0, 1);
        faultIs(Tables.turned(), "k", 0, 1);
        faultIs(Tables.ready(), "t:", 0, 1);
        faultIs(Tables.turned(), "k:", 0, 1);
    }

    private static void outOfRange() {
        String[] texts = {"o31,1,1,1;", "o1,100,1,1;", "o1,1,10,1;", "o1,1,1,2;", "n31,1,1;", "n1,1,4;", "x31;", "d0;",
            "d9;", "d000;", "b0;", "b32;", "m31;", "m999;", "o999,999,999,999;"};
        TwoShapes[] tables = {Tables.old(), Tables.both(), Tables.turned(), Tables.dropped()};
        for (TwoShapes x : tables) {
            for (String text : texts) {
                faultIs(x, text, 0, 2);
            }
        }
        faultIs(tables[0], "x3;x31;x5;", 3, 2);
    }

    private static void notPossible() {
        faultIs(Tables.old(), "x0;", 0, 3);
        faultIs(Tables.old(), "x3;x3;", 3, 3);
        faultIs(Tables.old(), "d1;", 0, 3);
        faultIs(Tables.old(), "b1;", 0, 3);
        faultIs(Tables.old(), "m1;", 0, 3);
        faultIs(Tables.old(), "t;", 0, 3);
        faultIs(Tables.old(), "k;", 0, 3);
        faultIs(Tables.both(), "b31;b1;", 4, 3);
        faultIs(Tables.both(), "t;", 0, 3);
        faultIs(Tables.both(), "n3,1,1;m3;", 7, 3);
        faultIs(Tables.both(), "n3,1,1;k;", 7, 3);
        TwoShapes x = Tables.both();
        for (int i = 0; i < 7; i++) {
            x.writeOld(i, 0, 0, 0);
        }
        faultIs(x, "x0;x1;", 3, 3);
        faultIs(x, "n0,0,0;n0,0,0;", 7, 3);
    }

    private static void firstFault() {
        faultIs(Tables.old(), "x0;?", 0, 3);
        faultIs(Tables.old(), "x31;?", 0, 2);
        faultIs(Tables.old(), "?;x31;", 0, 1);
        faultIs(Tables.old(), "x3;d1;d9;", 3, 3);
        faultIs(Tables.old(), "x3;d9;d1;", 3, 2);
    }

    private static void faultNow() {
        TwoShapes x = Tables.both();
        Tables.type(x, "b31;t;");
        Due.due(NONE, x.fault(0));
        x.backfill(31);
        Due.due("the table is another one now", 0, x.fault(0));
        Due.due(3, x.fault(1));
        x.undo();
        Due.due(NONE, x.fault(0));
    }

    private static void faultChangesNothing() {
        TwoShapes x = Tables.old();
        int states = x.count(11);
        Tables.type(x, "x3;n30,5,3;t;");
        Due.due(11, x.fault(0));
        Due.due(NO, x.play());
        Due.due(40, x.keys(0));
        Due.due(4, x.count(1));
        Due.due(states, x.count(11));
        Due.due(13, x.count(12));
    }

    private static void play() {
        TwoShapes x = new TwoShapes();
        Due.due(0, x.play());
        Tables.type(x, "o3,12,3,1;n4,567,3;x3;");
        Due.due(3, x.play());
        Due.due(16, x.keys(0));
        Due.due(56, x.read(4, 0, 0));
        Due.due("the text stays", 22, x.count(12));
        Due.due(3, x.play());
        Due.due(6, x.count(1));
    }

    private static void playIsOneChange() {
        TwoShapes x = new TwoShapes();
        x.play();
        Due.due("also without orders", 1, x.count(11));
        Tables.type(x, "o3,1,2,1;o4,1,2,1;o5,1,2,1;o6,1,2,1;");
        x.play();
        Due.due(2, x.count(11));
        Due.due(1, x.undo());
        Due.due(0, x.keys(0));
        Due.due(0, x.count(1));
        Due.due(36, x.count(12));
    }

    private static void playEachOrder() {
        TwoShapes x = Tables.both();
        Tables.type(x, "n3,400,2;d1;m5;b31;t;o5,7,8,1;d8;k;");
        Due.due(8, x.play());
        Due.due(1, x.count(0));
        Due.due(31, x.count(2));
        Due.due(6, x.count(1));
        Due.due(2, x.shapeOf(3, 1, 3));
        Due.due(78, x.shapeOf(5, 1, 2));
        Due.due(7, x.shapeOf(5, 0, 2));
        Due.due(1, x.count(8));
        Due.due(1, Tables.withText(x, "k;").play());
        Due.due(0, x.count(0));
    }

    private static void fullText() {
        TwoShapes x = new TwoShapes();
        StringBuilder text = new StringBuilder();
        for (int i = 0; i < 5; i++) {
            text.append("o1,1,1,1;x1;");
        }
        Tables.type(x, text.toString());
        Due.due(60, x.count(12));
        Due.due(10, x.play());
        Due.due(10, x.count(1));
        TwoShapes y = Tables.ready();
        y.backfill(31);
        Tables.type(y, "t;k;".repeat(15));
        Due.due(30, y.play());
        Due.due(1, y.count(0));
        Tables.withText(y, "t;k;".repeat(14) + "t;d1");
        Due.due(58, y.fault(0));
        Due.due(1, y.fault(1));
    }

    /** "NOT_POSSIBLE if it has a fault": also if the orders ahead of it are possible. */
    private static void playWithFault() {
        TwoShapes x = Tables.withText(Tables.old(), "o9,1,1,1;o10,1,1,1;x11;");
        Due.due(NO, x.play());
        Due.due("nothing is done", 40, x.keys(0));
        Due.due(4, x.count(1));
        Due.due("the text stays", 23, x.count(12));
        x.writeOld(11, 1, 1, 1);
        Due.due("as soon as it has none", 3, x.play());
        Due.due(8, x.count(1));
    }

    /** The last order ends at the last place of the text, or does not fit into it. */
    private static void lastPlaceOfText() {
        TwoShapes x = new TwoShapes();
        String orders = "o1,1,1,1;".repeat(6);
        Tables.type(x, orders + "x0001;");
        Due.due(60, x.count(12));
        Due.due(54, x.fault(0));
        Due.due(1, x.fault(1));
        Tables.withText(x, orders + "x001;t");
        Due.due(59, x.fault(0));
        Tables.withText(x, orders + "x1;x1;");
        Due.due("the last order is not possible", 57, x.fault(0));
        Due.due(3, x.fault(1));
        Tables.withText(x, orders + "n1,1,3;");
        Due.due("the last \";\" was not typed", 60, x.count(12));
        Due.due(54, x.fault(0));
        Due.due(1, x.fault(1));
        Tables.withText(x, "o01,1,1,1;" + "o1,1,1,1;".repeat(4) + "n01,01,03;x1;x");
        Due.due(59, x.fault(0));
    }
}
