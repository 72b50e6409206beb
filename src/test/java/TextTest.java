/** Promises 2 to 5: the text buffer and load. */
public final class TextTest {
    private static final Checks CHECKS = new Checks();

    public static void main(String[] args) {
        append();
        clearText();
        errorsInTheHead();
        errorsInCommands();
        errorsAtTheEnd();
        loadRefuses();
        loadMakesEverythingNew();
        loadDoesTheCommands();
        loadLeavesOut();
        CHECKS.end();
    }

    private static void append() {
        BandEngraver x = new BandEngraver();
        CHECKS.outOfRange("append(-1)", () -> x.append(-1));
        CHECKS.outOfRange("append(256)", () -> x.append(256));
        CHECKS.outOfRange("append(lowest)", () -> x.append(Integer.MIN_VALUE));
        CHECKS.due("append(0)", 1, () -> x.append(0));
        CHECKS.due("append(255)", 2, () -> x.append(255));
        for (int k = 3; k <= 120; k++) {
            CHECKS.due("append, the sign " + k, k, () -> x.append('u'));
        }
        CHECKS.wrongState("append to a full text", () -> x.append('u'));
        CHECKS.outOfRange("append(256) to a full text", () -> x.append(256));
        CHECKS.due("clearText after a refusal", 120, () -> x.clearText());
    }

    private static void clearText() {
        BandEngraver x = new BandEngraver();
        CHECKS.due("clearText of a new object", 0, () -> x.clearText());
        Pictures.write(x, "E0101");
        CHECKS.due("clearText", 5, () -> x.clearText());
        CHECKS.due("clearText again", 0, () -> x.clearText());
        CHECKS.due("append then", 1, () -> x.append('E'));
    }

    private static void error(String text, int want) {
        BandEngraver x = new BandEngraver();
        Pictures.write(x, text);
        CHECKS.due("errorPosition of " + text, want, () -> x.errorPosition());
        CHECKS.due("errorPosition once more, of " + text, want, () -> x.errorPosition());
        if (want != BandEngraver.NONE) {
            CHECKS.wrongState("load of " + text, () -> x.load());
        }
    }

    private static void errorsInTheHead() {
        error("E0101", -1);
        error("E1212", -1);
        error("E0910", -1);
        error("e0101", 0);
        error("p000000", 0);
        error(" E0101", 0);
        error("E0001", 2);
        error("E1301", 2);
        error("E2001", 1);
        error("E:101", 1);
        error("E/101", 1);
        error("E0100", 4);
        error("E0113", 4);
        error("E0120", 3);
        error("E01 1", 3);
        error("E0101E", 5);
        error("E0101E0101", 5);
        error("E0101x", 5);
        error("E0101 ", 5);
        error("E0101" + (char) 255, 5);
    }

    private static void errorsInCommands() {
        error("E0101p111199p000000", -1);
        error("E0101p120000", 7);
        error("E0101p200000", 6);
        error("E0101p001200", 9);
        error("E0101p00200", 8);
        error("E0101p0000x0", 10);
        error("E0101p00000x", 11);
        error("E0101b0011001199", -1);
        error("E0101b1200000000", 7);
        error("E0101b0012000000", 9);
        error("E0101b0000120000", 11);
        error("E0101b0000001200", 13);
        error("E0101b000000002", 15);
        error("E0101b00000000:", 14);
        error("E0101t01t99", -1);
        error("E0101t00", 7);
        error("E0101k00", 7);
        error("E0101k01k99", -1);
        error("E0101m01m30", -1);
        error("E0101m00", 7);
        error("E0101m31", 7);
        error("E0101m40", 6);
        error("E0101s01s49", -1);
        error("E0101s00", 7);
        error("E0101s50", 6);
        error("E0101uiui", -1);
        error("E0101u0", 6);
        error("E0101U", 5);
        error("E0101t011", 8);
    }

    private static void errorsAtTheEnd() {
        error("", 0);
        error("E", 1);
        error("E0", 2);
        error("E010", 4);
        error("E0101p", 6);
        error("E0101p11111", 11);
        error("E0101b000000000", 15);
        error("E0101m", 6);
        error("E0101m3", 7);
        error("E0101" + "u".repeat(115), -1);
        error("E0101" + "u".repeat(114) + "t", 120);
        error("E0101" + "u".repeat(113) + "t9", 120);
    }

    private static void loadRefuses() {
        BandEngraver x = new BandEngraver();
        x.cell(1, 1, 90);
        x.save(1);
        x.least(3);
        Pictures.write(x, "E0303m0");
        CHECKS.wrongState("load of what is not a plate", () -> x.load());
        CHECKS.due("about(0) after a refusal", 8, () -> x.about(0));
        CHECKS.due("about(3) after a refusal", 3, () -> x.about(3));
        CHECKS.due("undo after a refusal", 1, () -> x.undo());
        CHECKS.due("restore(1) after a refusal", 90, () -> x.restore(1));
        CHECKS.due("clearText after a refusal", 7, () -> x.clearText());
    }

    private static void loadMakesEverythingNew() {
        BandEngraver x = new BandEngraver();
        x.box(0, 7, 0, 7, 60);
        x.threshold(20, true);
        x.threshold(50, false);
        x.least(7);
        x.line(9);
        x.hatch(0, 8);
        x.hatch(5, 0);
        x.save(0);
        x.save(1);
        Pictures.write(x, "E0305");
        CHECKS.due("about(8) ahead of load", 0, () -> x.about(8));
        CHECKS.due("load", 0, () -> x.load());
        CHECKS.due("columns", 3, () -> x.about(0));
        CHECKS.due("rows", 5, () -> x.about(1));
        CHECKS.same("thresholds", "50", Pictures.thresholds(x));
        CHECKS.due("least size", 1, () -> x.about(3));
        CHECKS.due("islands", 1, () -> x.about(4));
        CHECKS.due("line", 1, () -> x.about(9));
        CHECKS.due("greys", 0, () -> x.about(10));
        CHECKS.wrongState("undo behind load", () -> x.undo());
        CHECKS.wrongState("restore(0) behind load", () -> x.restore(0));
        CHECKS.wrongState("restore(1) behind load", () -> x.restore(1));
        for (int b = 0; b <= 5; b++) {
            int band = b;
            CHECKS.due("hatching of the band " + b, b, () -> x.hatch(band, b(band)));
        }
        CHECKS.due("the text is kept", 5, () -> x.clearText());
        CHECKS.wrongState("load without a text", () -> x.load());
    }

    private static int b(int band) {
        return 9 - band;
    }

    private static void loadDoesTheCommands() {
        BandEngraver x = new BandEngraver();
        Pictures.write(x, "E0403p030155b0001010210t20t70k50m02");
        CHECKS.due("load", 0, () -> x.load());
        CHECKS.same("greys", "0 0 0 0/10 10 0 55/10 10 0 0", Pictures.greys(x));
        CHECKS.same("thresholds", "20 70", Pictures.thresholds(x));
        CHECKS.due("least size", 2, () -> x.about(3));
        CHECKS.same("bands", "0000/0000/0000", Pictures.bands(x));
        CHECKS.wrongState("undo behind load", () -> x.undo());
        CHECKS.due("load again", 0, () -> x.load());
        Pictures.write(x, "E0201p000010p010099u");
        CHECKS.due("load with u", 0, () -> x.load());
        CHECKS.same("greys, blurred", "27 81", Pictures.greys(x));
        Pictures.write(x, "E0201p000010p010060i");
        CHECKS.due("load with i", 0, () -> x.load());
        CHECKS.same("greys, turned over", "89 39", Pictures.greys(x));
        Pictures.write(x, "E0301p000024p010050p020075s25");
        CHECKS.due("load with s", 0, () -> x.load());
        CHECKS.same("greys, spread", "0 50 99", Pictures.greys(x));
        Pictures.write(x, "E1212p111199");
        CHECKS.due("load with the last cell", 0, () -> x.load());
        CHECKS.due("its grey", 99, () -> x.cellOf(11, 11, 0));
    }

    private static void loadLeavesOut() {
        BandEngraver x = new BandEngraver();
        Pictures.write(x, "E0403p040001p000301t50k51t20t30t40t60t70b0201000009b0000020109b0004000009b0000000309");
        CHECKS.due("load", 9, () -> x.load());
        CHECKS.same("greys", "0 0 0 0/0 0 0 0/0 0 0 0", Pictures.greys(x));
        CHECKS.same("thresholds", "20 30 40 50 60", Pictures.thresholds(x));
        Pictures.write(x, "E0101k50k50t01t01");
        CHECKS.due("load with two left out", 2, () -> x.load());
        CHECKS.same("the threshold then", "1", Pictures.thresholds(x));
    }
}
