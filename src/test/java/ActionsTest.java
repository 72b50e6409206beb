import java.util.function.LongSupplier;

/** Promises 15 to 27: the actions and undo. */
public final class ActionsTest {
    private static final Checks CHECKS = new Checks();

    public static void main(String[] args) {
        plate();
        cell();
        box();
        threshold();
        share();
        least();
        hatch();
        line();
        blur();
        invert();
        spread();
        noise();
        undo();
        undoOfEveryAction();
        whatThrowsIsNoAction();
        CHECKS.end();
    }

    private static void plate() {
        BandEngraver x = new BandEngraver();
        x.box(0, 7, 0, 7, 70);
        x.threshold(20, true);
        x.least(4);
        x.hatch(1, 9);
        x.line(5);
        CHECKS.due("plate(12, 12)", 144, () -> x.plate(12, 12));
        CHECKS.due("the greys", 0, () -> x.about(10));
        CHECKS.due("plate(3, 2)", 6, () -> x.plate(3, 2));
        CHECKS.due("columns", 3, () -> x.about(0));
        CHECKS.due("rows", 2, () -> x.about(1));
        CHECKS.same("greys", "0 0 0/0 0 0", Pictures.greys(x));
        CHECKS.same("thresholds stay", "20 50", Pictures.thresholds(x));
        CHECKS.due("the least size stays", 4, () -> x.about(3));
        CHECKS.due("the hatching stays", 9, () -> x.band(1, 0));
        CHECKS.due("the line stays", 5, () -> x.about(9));
        CHECKS.due("plate(1, 1)", 1, () -> x.plate(1, 1));
        CHECKS.outOfRange("plate(0, 1)", () -> x.plate(0, 1));
        CHECKS.outOfRange("plate(1, 0)", () -> x.plate(1, 0));
        CHECKS.outOfRange("plate(13, 1)", () -> x.plate(13, 1));
        CHECKS.outOfRange("plate(1, 13)", () -> x.plate(1, 13));
        CHECKS.due("columns after refusals", 1, () -> x.about(0));
    }

    private static void cell() {
        BandEngraver x = new BandEngraver();
        x.plate(3, 2);
        CHECKS.due("cell(2, 1, 99)", 0, () -> x.cell(2, 1, 99));
        CHECKS.due("cell(2, 1, 5)", 99, () -> x.cell(2, 1, 5));
        CHECKS.due("cell(2, 1, 0)", 5, () -> x.cell(2, 1, 0));
        CHECKS.due("cell(1, 0, 7)", 0, () -> x.cell(1, 0, 7));
        CHECKS.same("greys", "0 7 0/0 0 0", Pictures.greys(x));
        CHECKS.noSuch("cell(3, 0, 1)", () -> x.cell(3, 0, 1));
        CHECKS.noSuch("cell(0, 2, 1)", () -> x.cell(0, 2, 1));
        CHECKS.noSuch("cell(-1, 0, 1)", () -> x.cell(-1, 0, 1));
        CHECKS.noSuch("cell(0, -1, 1)", () -> x.cell(0, -1, 1));
        CHECKS.noSuch("cell(0, 2, 100)", () -> x.cell(0, 2, 100));
        CHECKS.outOfRange("cell(0, 0, 100)", () -> x.cell(0, 0, 100));
        CHECKS.outOfRange("cell(0, 0, -1)", () -> x.cell(0, 0, -1));
    }

    private static void box() {
        BandEngraver x = new BandEngraver();
        x.plate(4, 3);
        CHECKS.due("box(1, 2, 0, 1, 30)", 4, () -> x.box(1, 2, 0, 1, 30));
        CHECKS.same("greys", "0 30 30 0/0 30 30 0/0 0 0 0", Pictures.greys(x));
        CHECKS.due("box over it", 2, () -> x.box(1, 1, 0, 2, 0));
        CHECKS.same("greys", "0 0 30 0/0 0 30 0/0 0 0 0", Pictures.greys(x));
        CHECKS.due("box over all", 10, () -> x.box(0, 3, 0, 2, 30));
        CHECKS.due("box again", 0, () -> x.box(0, 3, 0, 2, 30));
        CHECKS.due("box of one", 1, () -> x.box(3, 3, 2, 2, 99));
        CHECKS.noSuch("box(0, 4, 0, 0)", () -> x.box(0, 4, 0, 0, 1));
        CHECKS.noSuch("box(0, 0, 0, 3)", () -> x.box(0, 0, 0, 3, 1));
        CHECKS.noSuch("box(-1, 0, 0, 0)", () -> x.box(-1, 0, 0, 0, 1));
        CHECKS.noSuch("box(0, 0, -1, 0)", () -> x.box(0, 0, -1, 0, 1));
        CHECKS.noSuch("box(4, 0, 0, 0)", () -> x.box(4, 0, 0, 0, 1));
        CHECKS.noSuch("box(0, -1, 0, 0)", () -> x.box(0, -1, 0, 0, 1));
        CHECKS.noSuch("box(0, 0, 3, 0)", () -> x.box(0, 0, 3, 0, 1));
        CHECKS.noSuch("box(0, 0, 0, -1)", () -> x.box(0, 0, 0, -1, 1));
        CHECKS.noSuch("box, a column and the grey wrong", () -> x.box(0, 4, 0, 0, 100));
        CHECKS.outOfRange("box(1, 0, 0, 0)", () -> x.box(1, 0, 0, 0, 1));
        CHECKS.outOfRange("box(0, 0, 1, 0)", () -> x.box(0, 0, 1, 0, 1));
        CHECKS.outOfRange("box, grey 100", () -> x.box(0, 0, 0, 0, 100));
        CHECKS.outOfRange("box, grey -1", () -> x.box(0, 0, 0, 0, -1));
        CHECKS.due("the sum", 11 * 30 + 99, () -> x.about(10));
    }

    private static void threshold() {
        BandEngraver x = new BandEngraver();
        CHECKS.due("put 99 in", 2, () -> x.threshold(99, true));
        CHECKS.due("put 1 in", 3, () -> x.threshold(1, true));
        CHECKS.due("put 60 in", 4, () -> x.threshold(60, true));
        CHECKS.wrongState("put 60 in again", () -> x.threshold(60, true));
        CHECKS.due("put 55 in", 5, () -> x.threshold(55, true));
        CHECKS.same("thresholds", "1 50 55 60 99", Pictures.thresholds(x));
        CHECKS.wrongState("put a sixth in", () -> x.threshold(56, true));
        CHECKS.wrongState("take out what is not there", () -> x.threshold(56, false));
        CHECKS.outOfRange("put 0 in", () -> x.threshold(0, true));
        CHECKS.outOfRange("put 100 in", () -> x.threshold(100, true));
        CHECKS.outOfRange("take 0 out", () -> x.threshold(0, false));
        CHECKS.outOfRange("take 100 out", () -> x.threshold(100, false));
        CHECKS.due("take 55 out", 4, () -> x.threshold(55, false));
        CHECKS.due("take 1 out", 3, () -> x.threshold(1, false));
        CHECKS.due("take 99 out", 2, () -> x.threshold(99, false));
        CHECKS.same("thresholds", "50 60", Pictures.thresholds(x));
        x.cell(0, 0, 50);
        CHECKS.due("band of a grey as great as the threshold", 1, () -> x.cellOf(0, 0, 1));
        x.cell(0, 0, 49);
        CHECKS.due("band of a grey below it", 0, () -> x.cellOf(0, 0, 1));
        x.cell(0, 0, 99);
        CHECKS.due("band of the highest grey", 2, () -> x.cellOf(0, 0, 1));
        x.threshold(50, false);
        CHECKS.due("take the last out", 0, () -> x.threshold(60, false));
        CHECKS.due("band without thresholds", 0, () -> x.cellOf(0, 0, 1));
    }

    private static void shared(int n, String want, String... rows) {
        BandEngraver x = Pictures.plate(rows);
        int count = want.isEmpty() ? 0 : want.split(" ").length;
        CHECKS.due("share(" + n + ")", count, () -> x.share(n));
        CHECKS.same("share(" + n + ")", want, Pictures.thresholds(x));
    }

    private static void share() {
        shared(0, "", "1234");
        shared(1, "21", "1234");
        shared(2, "11 21", "1234");
        shared(3, "11 21 31", "1234");
        shared(4, "1 11 21 31", "1234");
        shared(5, "1 11 21 31", "1234");
        shared(3, "11 31", "11333");
        shared(1, "1", "3");
        shared(5, "1", "0");
        shared(2, "1", "00");
        BandEngraver x = new BandEngraver();
        x.box(0, 7, 0, 7, 99);
        CHECKS.due("share(1) of white", 1, () -> x.share(1));
        CHECKS.same("share(1) of white", "99", Pictures.thresholds(x));
        x.box(0, 7, 0, 7, 98);
        CHECKS.due("share(5) of nearly white", 1, () -> x.share(5));
        CHECKS.same("share(5) of nearly white", "99", Pictures.thresholds(x));
        CHECKS.outOfRange("share(-1)", () -> x.share(-1));
        CHECKS.outOfRange("share(6)", () -> x.share(6));
    }

    private static void least() {
        BandEngraver x = Pictures.plate("001");
        CHECKS.due("least(30)", 1, () -> x.least(30));
        CHECKS.due("islands", 1, () -> x.about(4));
        CHECKS.due("least(1)", 30, () -> x.least(1));
        CHECKS.due("islands", 2, () -> x.about(4));
        CHECKS.outOfRange("least(0)", () -> x.least(0));
        CHECKS.outOfRange("least(31)", () -> x.least(31));
        CHECKS.due("the least size", 1, () -> x.about(3));
    }

    private static void hatch() {
        BandEngraver x = new BandEngraver();
        for (int b = 0; b <= 5; b++) {
            int band = b;
            CHECKS.due("hatch " + b, b, () -> x.hatch(band, 9));
            CHECKS.due("hatch " + b + " again", 9, () -> x.hatch(band, 0));
        }
        CHECKS.noSuch("hatch(6, 0)", () -> x.hatch(6, 0));
        CHECKS.noSuch("hatch(-1, 0)", () -> x.hatch(-1, 0));
        CHECKS.noSuch("hatch(6, 10)", () -> x.hatch(6, 10));
        CHECKS.outOfRange("hatch(0, 10)", () -> x.hatch(0, 10));
        CHECKS.outOfRange("hatch(0, -1)", () -> x.hatch(0, -1));
    }

    private static void line() {
        BandEngraver x = new BandEngraver();
        CHECKS.due("line(9)", 1, () -> x.line(9));
        CHECKS.due("line(0)", 9, () -> x.line(0));
        CHECKS.due("the line", 0, () -> x.about(9));
        CHECKS.outOfRange("line(-1)", () -> x.line(-1));
        CHECKS.outOfRange("line(10)", () -> x.line(10));
    }

    private static void blur() {
        BandEngraver x = new BandEngraver();
        x.plate(2, 1);
        x.cell(0, 0, 10);
        x.cell(1, 0, 99);
        CHECKS.due("blur", 2, () -> x.blur());
        // 139 / 5 and 406 / 5
        CHECKS.same("blurred", "27 81", Pictures.greys(x));
        x.plate(3, 3);
        CHECKS.due("blur of nothing", 0, () -> x.blur());
        x.cell(1, 1, 90);
        CHECKS.due("blur of a dot", 5, () -> x.blur());
        // 360 / 8 in the middle, 90 / 7 beside it
        CHECKS.same("blurred dot", "0 12 0/12 45 12/0 12 0", Pictures.greys(x));
        x.plate(1, 1);
        x.cell(0, 0, 77);
        CHECKS.due("blur of one cell", 0, () -> x.blur());
        CHECKS.same("one cell", "77", Pictures.greys(x));
        x.plate(3, 2);
        x.cell(0, 0, 60);
        CHECKS.due("blur of a corner", 3, () -> x.blur());
        // 240 / 6, 60 / 7 and 60 / 6
        CHECKS.same("blurred corner", "40 8 0/10 0 0", Pictures.greys(x));
    }

    private static void invert() {
        BandEngraver x = new BandEngraver();
        x.plate(3, 1);
        x.cell(1, 0, 40);
        x.cell(2, 0, 99);
        CHECKS.due("invert", 99 + 59, () -> x.invert());
        CHECKS.same("inverted", "99 59 0", Pictures.greys(x));
        CHECKS.due("invert back", 139, () -> x.invert());
    }

    private static void spread(int v, int grey, int want) {
        BandEngraver x = new BandEngraver();
        x.plate(1, 1);
        x.cell(0, 0, grey);
        CHECKS.due("spread(" + v + ") of " + grey, grey == want ? 0 : 1, () -> x.spread(v));
        CHECKS.same("spread " + v, Integer.toString(want), Pictures.greys(x));
    }

    private static void spread() {
        spread(25, 24, 0);
        spread(25, 25, 0);
        spread(25, 26, 2);
        spread(25, 50, 50);
        spread(25, 73, 96);
        spread(25, 74, 99);
        spread(25, 75, 99);
        spread(49, 48, 0);
        spread(49, 49, 0);
        spread(49, 50, 99);
        spread(49, 51, 99);
        spread(1, 0, 0);
        spread(1, 1, 0);
        spread(1, 98, 99);
        spread(1, 99, 99);
        spread(1, 97, 97);
        BandEngraver x = new BandEngraver();
        x.plate(4, 1);
        x.cell(1, 0, 99);
        x.cell(2, 0, 10);
        x.cell(3, 0, 80);
        CHECKS.due("spread(20) of four", 2, () -> x.spread(20));
        CHECKS.outOfRange("spread(0)", () -> x.spread(0));
        CHECKS.outOfRange("spread(50)", () -> x.spread(50));
    }

    private static void noise() {
        // The numbers of the row begin with 167951807, 218396424, 1299921937, 861605236.
        BandEngraver x = new BandEngraver();
        x.plate(2, 2);
        x.box(0, 1, 0, 1, 50);
        CHECKS.due("noise(0, 10)", 4, () -> x.noise(0, 10));
        CHECKS.same("noisy", "42 55/53 56", Pictures.greys(x));
        x.plate(2, 2);
        x.box(0, 1, 0, 0, 99);
        CHECKS.due("noise(0, 50)", 2, () -> x.noise(0, 50));
        // less 32, 34, less 27, 42, held within 0 to 99
        CHECKS.same("noisy, held", "67 99/0 42", Pictures.greys(x));
        x.plate(4, 1);
        CHECKS.due("noise(0, 1)", 1, () -> x.noise(0, 1));
        CHECKS.same("noisy by one", "1 0 0 0", Pictures.greys(x));
        x.plate(1, 4);
        x.box(0, 0, 0, 3, 50);
        CHECKS.due("noise(-1, 50)", 4, () -> x.noise(-1, 50));
        CHECKS.same("noisy by -1", "60/78/5/36", Pictures.greys(x));
        CHECKS.outOfRange("noise(0, 0)", () -> x.noise(0, 0));
        CHECKS.outOfRange("noise(0, 51)", () -> x.noise(0, 51));
    }

    private static void undo() {
        BandEngraver x = new BandEngraver();
        CHECKS.wrongState("undo of nothing", () -> x.undo());
        for (int k = 1; k <= 20; k++) {
            x.cell(0, 0, k);
        }
        for (int k = 13; k >= 0; k--) {
            CHECKS.due("undo", k, () -> x.undo());
            CHECKS.due("the grey then", 6 + k, () -> x.cellOf(0, 0, 0));
        }
        CHECKS.wrongState("undo of what is forgotten", () -> x.undo());
        CHECKS.due("the grey then", 6, () -> x.cellOf(0, 0, 0));
        x.cell(0, 0, 6);
        x.blur();
        CHECKS.due("undo of what made nothing different", 1, () -> x.undo());
        x.cell(1, 1, 9);
        CHECKS.due("undo behind undo", 1, () -> x.undo());
        CHECKS.due("and once more", 0, () -> x.undo());
    }

    /** An action, then undo: everything is as it was, also if it was looked at in between. */
    private static void undone(String call, BandEngraver x, LongSupplier action) {
        String before = Pictures.all(x);
        action.getAsLong();
        String between = Pictures.all(x);
        CHECKS.same(call + " makes a difference", "true", Boolean.toString(!between.equals(before)));
        CHECKS.due("undo of " + call, 0, () -> x.undo());
        CHECKS.same("undone: " + call, before, Pictures.all(x));
    }

    private static void undoOfEveryAction() {
        BandEngraver x = new BandEngraver();
        Pictures.write(x, "E0704b0205010260p0000" + "70b0303000155t20t80m02");
        x.load();
        x.hatch(4, 9);
        x.line(3);
        x.save(1);
        x.restore(1);
        undone("plate", x, () -> x.plate(4, 7));
        undone("cell", x, () -> x.cell(1, 1, 33));
        undone("box", x, () -> x.box(0, 5, 0, 2, 90));
        undone("threshold in", x, () -> x.threshold(30, true));
        undone("threshold out", x, () -> x.threshold(50, false));
        undone("share", x, () -> x.share(2));
        undone("least", x, () -> x.least(9));
        undone("hatch", x, () -> x.hatch(0, 7));
        undone("line", x, () -> x.line(5));
        undone("blur", x, () -> x.blur());
        undone("invert", x, () -> x.invert());
        undone("spread", x, () -> x.spread(20));
        undone("noise", x, () -> x.noise(4, 50));
    }

    private static void whatThrowsIsNoAction() {
        BandEngraver x = new BandEngraver();
        String before = Pictures.all(x);
        CHECKS.outOfRange("plate", () -> x.plate(0, 0));
        CHECKS.noSuch("cell", () -> x.cell(8, 0, 0));
        CHECKS.outOfRange("box", () -> x.box(1, 0, 0, 0, 0));
        CHECKS.wrongState("threshold", () -> x.threshold(50, true));
        CHECKS.outOfRange("share", () -> x.share(6));
        CHECKS.outOfRange("least", () -> x.least(0));
        CHECKS.outOfRange("hatch", () -> x.hatch(0, 10));
        CHECKS.outOfRange("line", () -> x.line(10));
        CHECKS.outOfRange("spread", () -> x.spread(0));
        CHECKS.outOfRange("noise", () -> x.noise(1, 0));
        CHECKS.same("nothing is changed", before, Pictures.all(x));
        CHECKS.wrongState("undo", () -> x.undo());
        x.share(1);
        x.hatch(3, 3);
        CHECKS.due("undo of two actions", 1, () -> x.undo());
    }
}
