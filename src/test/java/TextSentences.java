/** The sentences of the text: those of "Terms", and promises 2 to 5. */
final class TextSentences {
    private static final String HEAD = "E1212";

    private final Sentences s;

    TextSentences(Sentences sentences) {
        s = sentences;
    }

    void show() {
        s.of("Terms");
        buffer();
        head();
        columnsAndRows();
        numbers();
        leftOut();
        signs();
        errorPositions();
        s.of("Promise 2");
        append();
        s.of("Promise 3");
        clearText();
        s.of("Promise 4");
        errorPosition();
        s.of("Promise 5");
        load();
        loadForgets();
        loadRefuses();
    }

    private static BandEngraver filled(int signs) {
        BandEngraver x = new BandEngraver();
        for (int k = 0; k < signs; k++) {
            x.append('u');
        }
        return x;
    }

    private static void error(Checks c, String text, int want) {
        BandEngraver x = new BandEngraver();
        Pictures.write(x, text);
        c.due("errorPosition of " + text, want, () -> x.errorPosition());
    }

    /** All texts of two digits behind a beginning: allowed are those from the lowest to the highest. */
    private static void twoDigits(Checks c, String before, String behind, int lowest, int highest) {
        for (int v = 0; v <= 99; v++) {
            int first = before.length();
            int tens = v / 10;
            int want = tens < lowest / 10 || tens > highest / 10 ? first
                    : v < lowest || v > highest ? first + 1 : BandEngraver.NONE;
            error(c, before + tens + v % 10 + behind, want);
        }
    }

    private void buffer() {
        s.holds("The object has a text buffer of at most 120 characters.", c -> {
            BandEngraver x = new BandEngraver();
            for (int k = 1; k <= 120; k++) {
                c.due("append, the sign " + k, k, () -> x.append('u'));
            }
            c.wrongState("a sign more", () -> x.append('u'));
            c.due("clearText", 120, () -> x.clearText());
        });
    }

    private void head() {
        s.holds("A plate as a text is the letter E, two digits for columns (01 to 12), two for rows (01 to 12), and then any number of commands", c -> {
            twoDigits(c, "E", "01", 1, 12);
            twoDigits(c, "E01", "", 1, 12);
            error(c, "E0101", -1);
            error(c, "E0101u", -1);
            error(c, HEAD + "u".repeat(115), -1);
            error(c, "e0101", 0);
            error(c, "F0101", 0);
            error(c, "u", 0);
            error(c, "E0101E0101", 5);
        });
    }

    private void columnsAndRows() {
        s.holds("columns and rows are two digits (00 to 11), greys two digits (00 to 99)", c -> {
            twoDigits(c, HEAD + "p", "0000", 0, 11);
            twoDigits(c, HEAD + "p00", "00", 0, 11);
            twoDigits(c, HEAD + "p0000", "", 0, 99);
            twoDigits(c, HEAD + "b", "00000000", 0, 11);
            twoDigits(c, HEAD + "b00", "000000", 0, 11);
            twoDigits(c, HEAD + "b0000", "0000", 0, 11);
            twoDigits(c, HEAD + "b000000", "00", 0, 11);
            twoDigits(c, HEAD + "b00000000", "", 0, 99);
        });
        s.holds("p, a column, a row, and a grey: cell()", c -> {
            BandEngraver x = new BandEngraver();
            Pictures.write(x, "E1212p110099p001198");
            c.due("load", 0, () -> x.load());
            c.due("the column 11, the row 0", 99, () -> x.cellOf(11, 0, 0));
            c.due("the column 0, the row 11", 98, () -> x.cellOf(0, 11, 0));
        });
        s.holds("b, two columns, two rows, and a grey: box()", c -> {
            BandEngraver x = new BandEngraver();
            Pictures.write(x, "E0403b0203000107");
            c.due("load", 0, () -> x.load());
            c.same("the greys", "0 0 7 7/0 0 7 7/0 0 0 0", Pictures.greys(x));
        });
    }

    private void numbers() {
        s.holds("t and two digits (01 to 99): threshold(), put in", c -> {
            twoDigits(c, HEAD + "t", "", 1, 99);
            BandEngraver x = new BandEngraver();
            Pictures.write(x, "E0101t01t99");
            c.due("load", 0, () -> x.load());
            c.same("the thresholds", "1 50 99", Pictures.thresholds(x));
        });
        s.holds("k and two digits (01 to 99): threshold(), taken out", c -> {
            twoDigits(c, HEAD + "k", "", 1, 99);
            BandEngraver x = new BandEngraver();
            Pictures.write(x, "E0101t99k50t01k99");
            c.due("load", 0, () -> x.load());
            c.same("the thresholds", "1", Pictures.thresholds(x));
        });
        s.holds("m and two digits (01 to 30): least()", c -> {
            twoDigits(c, HEAD + "m", "", 1, 30);
            BandEngraver x = new BandEngraver();
            Pictures.write(x, "E0101m30");
            c.due("load", 0, () -> x.load());
            c.due("the least size", 30, () -> x.about(3));
        });
        s.holds("s and two digits (01 to 49): spread().", c -> {
            twoDigits(c, HEAD + "s", "", 1, 49);
            BandEngraver x = new BandEngraver();
            Pictures.write(x, "E0401p000049p010050p020051p030048s49");
            c.due("load", 0, () -> x.load());
            c.same("the greys", "0 99 99 0", Pictures.greys(x));
            Pictures.write(x, "E0301p000099p010050p020001s01");
            c.due("load with s01", 0, () -> x.load());
            c.same("the greys of s01", "99 50 0", Pictures.greys(x));
        });
        s.holds("u: blur(); i: invert()", c -> {
            BandEngraver x = new BandEngraver();
            Pictures.write(x, "E0201p000010p010099u");
            c.due("load with u", 0, () -> x.load());
            c.same("the greys of u", "27 81", Pictures.greys(x));
            Pictures.write(x, "E0201p010099i");
            c.due("load with i", 0, () -> x.load());
            c.same("the greys of i", "99 0", Pictures.greys(x));
        });
    }

    private static void left(Checks c, String text, int want, String thresholds) {
        BandEngraver x = new BandEngraver();
        Pictures.write(x, text);
        c.due("errorPosition of " + text, BandEngraver.NONE, () -> x.errorPosition());
        c.due("load of " + text, want, () -> x.load());
        c.due("the sum of the greys of " + text, 0, () -> x.about(10));
        c.same("the thresholds of " + text, thresholds, Pictures.thresholds(x));
    }

    private void leftOut() {
        s.holds("Commands that would throw an exception are left out.", c -> {
            left(c, "E0403p040009", 1, "50");
            left(c, "E0403p000309", 1, "50");
            left(c, "E0403b0004000009", 1, "50");
            left(c, "E0403b0000000309", 1, "50");
            left(c, "E0403b0400000009", 1, "50");
            left(c, "E0403b0100000009", 1, "50");
            left(c, "E0403b0000010009", 1, "50");
            left(c, "E0101t50", 1, "50");
            left(c, "E0101k49", 1, "50");
            left(c, "E0101k50k50", 1, "");
            left(c, "E0101t01t02t03t04t05t06", 2, "1 2 3 4 50");
            left(c, "E0101t05t05k05k05k50k50", 3, "");
        });
    }

    private void signs() {
        s.holds("The text is read from left to right.", c -> {
            left(c, "E0101k50t50", 0, "50");
            left(c, "E0101t50k50", 1, "");
            BandEngraver x = Pictures.row(0);
            Pictures.write(x, "E0101p000030p000070i");
            c.due("load", 0, () -> x.load());
            c.due("the grey", 29, () -> x.cellOf(0, 0, 0));
        });
        s.holds("There are no blanks.", c -> {
            error(c, " E0101", 0);
            error(c, "E 0101", 1);
            error(c, "E0101 ", 5);
            error(c, "E0101 u", 5);
            error(c, "E0101p 000000", 6);
            error(c, "E0101t0 1", 7);
        });
        s.holds("error position is the index of the first character that these rules do not allow at its place", c -> {
            for (int sign = 0; sign <= 255; sign++) {
                boolean word = "pbtkmsui".indexOf(sign) >= 0;
                error(c, "E0101" + (char) sign, word ? "ui".indexOf(sign) >= 0 ? -1 : 6 : 5);
                error(c, "" + (char) sign, sign == 'E' ? 1 : 0);
                error(c, "E0101p0" + (char) sign, sign >= '0' && sign <= '9' ? 8 : 7);
                error(c, "E1" + (char) sign, sign >= '0' && sign <= '2' ? 3 : 2);
                error(c, "E0101t1" + (char) sign, sign >= '0' && sign <= '9' ? -1 : 7);
                error(c, "E0101m" + (char) sign, sign >= '0' && sign <= '3' ? 7 : 6);
            }
            // Of several errors the first one.
            error(c, "E9x p", 1);
            error(c, "E0101t00m99", 7);
        });
    }

    private void errorPositions() {
        s.holds("(a digit is not allowed if no number that is allowed begins with it and those before it)", c -> {
            error(c, "E2", 1);
            error(c, "E1", 2);
            error(c, "E13", 2);
            error(c, "E00", 2);
            error(c, "E012", 3);
            error(c, "E0100", 4);
            error(c, "E0101p2", 6);
            error(c, "E0101p12", 7);
            error(c, "E0101m4", 6);
            error(c, "E0101m31", 7);
            error(c, "E0101m00", 7);
            error(c, "E0101s5", 6);
            error(c, "E0101s49", -1);
            error(c, "E0101t00", 7);
            error(c, "E0101k00", 7);
        });
        s.holds("if the text ends too soon, it is the length of the text.", c -> {
            String whole = "E0412p000199b0102010199t09k50m30s49";
            for (int length = 0; length <= whole.length(); length++) {
                boolean ends = "5 12 23 26 29 32 35".matches("(.* )?" + length + "( .*)?");
                error(c, whole.substring(0, length), ends ? -1 : length);
            }
            error(c, HEAD + "u".repeat(114) + "t", 120);
            error(c, HEAD + "u".repeat(113) + "m3", 120);
            error(c, HEAD + "u".repeat(112) + "m30", -1);
        });
    }

    private void append() {
        s.holds("`c`: character code, 0 to 255", c -> {
            BandEngraver x = new BandEngraver();
            for (int code = 0; code <= 255; code++) {
                int sign = code;
                c.due("append(" + code + ")", 1, () -> x.append(sign));
                x.clearText();
            }
        });
        s.holds("Appends a character to the text buffer.", c -> {
            BandEngraver x = new BandEngraver();
            for (char sign : "E0302t07".toCharArray()) {
                x.append(sign);
            }
            c.due("load", 0, () -> x.load());
            c.same("the thresholds", "7 50", Pictures.thresholds(x));
        });
        s.holds("Returns the new length of the text.", c -> {
            BandEngraver x = new BandEngraver();
            c.due("the first", 1, () -> x.append('E'));
            c.due("the second", 2, () -> x.append(0));
            c.due("the 120th", 120, () -> filled(119).append('u'));
        });
        s.holds("Throws `IllegalArgumentException` if c is out of range", c -> {
            BandEngraver x = new BandEngraver();
            c.outOfRange("append(-1)", () -> x.append(-1));
            c.outOfRange("append(256)", () -> x.append(256));
            c.outOfRange("append(lowest)", () -> x.append(Integer.MIN_VALUE));
            c.outOfRange("append(highest)", () -> x.append(Integer.MAX_VALUE));
            c.outOfRange("to a full text", () -> filled(120).append(256));
            c.due("the text then", 0, () -> x.clearText());
        });
        s.holds("Throws `IllegalStateException` if the text already has 120 characters", c -> {
            BandEngraver x = filled(120);
            c.wrongState("append", () -> x.append('E'));
            c.wrongState("append(0)", () -> x.append(0));
            c.due("the text then", 120, () -> x.clearText());
            c.due("append behind it", 1, () -> x.append('E'));
        });
    }

    private void clearText() {
        s.holds("Empties the text buffer.", c -> {
            BandEngraver x = new BandEngraver();
            Pictures.write(x, "E0101");
            x.clearText();
            c.due("errorPosition", 0, () -> x.errorPosition());
            c.due("the next sign", 1, () -> x.append('u'));
            c.due("errorPosition with another one", 0, () -> x.errorPosition());
        });
        s.holds("Returns the previous length of the text.", c -> {
            c.due("of a new object", 0, () -> new BandEngraver().clearText());
            c.due("of one sign", 1, () -> filled(1).clearText());
            c.due("of a full text", 120, () -> filled(120).clearText());
            BandEngraver x = filled(3);
            x.clearText();
            c.due("of an emptied one", 0, () -> x.clearText());
        });
    }

    private void errorPosition() {
        s.holds("Checks the text.", c -> {
            BandEngraver x = new BandEngraver();
            c.due("of a new object", 0, () -> x.errorPosition());
            Pictures.write(x, "E0101t0");
            c.due("too short", 7, () -> x.errorPosition());
            c.due("once more", 7, () -> x.errorPosition());
            x.append('1');
            c.due("long enough", -1, () -> x.errorPosition());
            c.due("the text is as it was", 8, () -> x.clearText());
        });
        s.holds("Returns the error position of the text; NONE if it is a plate.", c -> {
            error(c, "E0101", BandEngraver.NONE);
            error(c, "E010", 4);
            error(c, "x", 0);
        });
    }

    private void load() {
        s.holds("Makes everything as in a new object, but with the columns and rows that are told, and then does the commands of the text.", c -> {
            BandEngraver x = new BandEngraver();
            x.box(0, 7, 0, 7, 60);
            x.threshold(20, true);
            x.threshold(50, false);
            x.least(7);
            x.line(9);
            for (int b = 0; b <= 5; b++) {
                x.hatch(b, 9 - b);
            }
            Pictures.write(x, "E0312");
            c.due("load", 0, () -> x.load());
            c.due("the columns", 3, () -> x.about(0));
            c.due("the rows", 12, () -> x.about(1));
            c.same("the thresholds", "50", Pictures.thresholds(x));
            c.due("the least size", 1, () -> x.about(3));
            c.due("the line", 1, () -> x.about(9));
            c.due("the greys", 0, () -> x.about(10));
            for (int b = 0; b <= 5; b++) {
                int band = b;
                c.due("the hatching of the band " + b, b, () -> x.hatch(band, 9));
            }
            Pictures.write(x, "E0201p000030p010070k50t40s25");
            c.due("load with commands", 0, () -> x.load());
            c.same("the greys", "10 90", Pictures.greys(x));
            c.same("the thresholds then", "40", Pictures.thresholds(x));
        });
        s.holds("Keeps the text.", c -> {
            BandEngraver x = new BandEngraver();
            Pictures.write(x, "E0101k50t07");
            c.due("load", 0, () -> x.load());
            c.due("load again", 0, () -> x.load());
            c.due("errorPosition", -1, () -> x.errorPosition());
            c.due("the text", 11, () -> x.clearText());
        });
        s.holds("Returns the number of commands that are left out.", c -> {
            BandEngraver x = new BandEngraver();
            Pictures.write(x, "E0101");
            c.due("no command", 0, () -> x.load());
            Pictures.write(x, "E0101t01t02t03");
            c.due("none left out", 0, () -> x.load());
            Pictures.write(x, "E0101p010000uiu" + "k49".repeat(35));
            c.due("36 left out", 36, () -> x.load());
            Pictures.write(x, HEAD + "i".repeat(115));
            c.due("115 commands, none left out", 0, () -> x.load());
            c.due("the greys, turned over an odd number of times", 144 * 99, () -> x.about(10));
        });
    }

    private void loadForgets() {
        s.holds("Behind it no state is remembered, and both save slots are empty.", c -> {
            BandEngraver x = new BandEngraver();
            x.cell(0, 0, 9);
            x.save(0);
            x.save(1);
            for (int k = 0; k < 14; k++) {
                x.invert();
            }
            Pictures.write(x, "E0101t01u");
            c.due("load", 0, () -> x.load());
            c.wrongState("undo", () -> x.undo());
            c.wrongState("restore(0)", () -> x.restore(0));
            c.wrongState("restore(1)", () -> x.restore(1));
            c.same("the thresholds", "1 50", Pictures.thresholds(x));
            x.line(4);
            c.due("undo of what came behind it", 0, () -> x.undo());
            c.wrongState("undo once more", () -> x.undo());
            x.save(1);
            c.wrongState("restore(0), still empty", () -> x.restore(0));
            c.due("restore(1)", 0, () -> x.restore(1));
        });
    }

    private void loadRefuses() {
        s.holds("Throws `IllegalStateException` if the text is not a plate", c -> {
            c.wrongState("load of no text", () -> new BandEngraver().load());
            for (String text : new String[] {"E", "E010", "E0101p", "E0101m31", "E0101 ", "x", "E1301", "E0101t0"}) {
                BandEngraver x = new BandEngraver();
                x.cell(7, 7, 90);
                x.save(1);
                x.least(3);
                String before = Pictures.all(x);
                Pictures.write(x, text);
                c.wrongState("load of " + text, () -> x.load());
                c.due("the text then", text.length(), () -> x.clearText());
                c.same("the state then", before, Pictures.all(x));
                c.due("undo then", 1, () -> x.undo());
                c.due("restore(1) then", 90, () -> x.restore(1));
            }
        });
    }
}
