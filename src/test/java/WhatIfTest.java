/** Promises 28 to 35: what would be, scripts, simulations and save slots. */
public final class WhatIfTest {
    private static final Checks CHECKS = new Checks();

    public static void main(String[] args) {
        ifLeast();
        leastFor();
        bestMove();
        bestMoveBesideOthers();
        ifCell();
        scriptArguments();
        scriptCommands();
        scriptThresholds();
        scriptQuestions();
        scriptsOfTwo();
        simulateArguments();
        simulateTurns();
        nothingIsChanged();
        slots();
        restore();
        CHECKS.end();
    }

    private static void ifLeast() {
        BandEngraver x = Pictures.plate("0120", "2222");
        x.least(30);
        CHECKS.due("ifLeast(1, 0)", 4, () -> x.ifLeast(1, 0));
        CHECKS.due("ifLeast(1, 1)", 0, () -> x.ifLeast(1, 1));
        CHECKS.due("ifLeast(1, 2)", 17, () -> x.ifLeast(1, 2));
        // 1122 above 2222
        CHECKS.due("ifLeast(2, 0)", 2, () -> x.ifLeast(2, 0));
        CHECKS.due("ifLeast(2, 1)", 2, () -> x.ifLeast(2, 1));
        CHECKS.due("ifLeast(2, 2)", 2 + 12 + 3, () -> x.ifLeast(2, 2));
        CHECKS.due("ifLeast(30, 0)", 1, () -> x.ifLeast(30, 0));
        CHECKS.due("ifLeast(30, 1)", 3, () -> x.ifLeast(30, 1));
        CHECKS.due("the least size", 30, () -> x.about(3));
        CHECKS.outOfRange("ifLeast(0, 0)", () -> x.ifLeast(0, 0));
        CHECKS.outOfRange("ifLeast(31, 0)", () -> x.ifLeast(31, 0));
        CHECKS.outOfRange("ifLeast(1, -1)", () -> x.ifLeast(1, -1));
        CHECKS.outOfRange("ifLeast(1, 3)", () -> x.ifLeast(1, 3));
    }

    private static void leastFor() {
        BandEngraver x = Pictures.plate("0112223333");
        x.least(9);
        CHECKS.due("leastFor(144)", 1, () -> x.leastFor(144));
        CHECKS.due("leastFor(4)", 1, () -> x.leastFor(4));
        // 0 goes with 11 at the least size 2; then 111, 222 and 3333 are left; with 4 all go.
        CHECKS.due("leastFor(3)", 2, () -> x.leastFor(3));
        CHECKS.due("leastFor(2)", 4, () -> x.leastFor(2));
        CHECKS.due("leastFor(1)", 5, () -> x.leastFor(1));
        CHECKS.outOfRange("leastFor(0)", () -> x.leastFor(0));
        CHECKS.outOfRange("leastFor(145)", () -> x.leastFor(145));
        BandEngraver big = new BandEngraver();
        big.plate(12, 12);
        big.box(0, 5, 0, 4, 99);
        CHECKS.due("leastFor(2) of two", 1, () -> big.leastFor(2));
        CHECKS.due("leastFor(1), one of 30 cells", -1, () -> big.leastFor(1));
        big.cell(5, 4, 0);
        CHECKS.due("leastFor(1), one of 29 cells", 30, () -> big.leastFor(1));
    }

    private static BandEngraver greys(int... greys) {
        BandEngraver x = new BandEngraver();
        x.plate(greys.length, 1);
        for (int k = 0; k < greys.length; k++) {
            x.cell(k, 0, greys[k]);
        }
        return x;
    }

    private static void bestMove() {
        // All in one band from 1 to 20 and from 61 on: 61 is nearer to 50.
        BandEngraver x = greys(20, 60, 40);
        CHECKS.due("bestMove(0)", 61, () -> x.bestMove(0));
        x.threshold(50, false);
        x.threshold(41, true);
        // 20 and 62 are as far from 41.
        CHECKS.due("bestMove(0) of a higher plate", 61, () -> x.bestMove(0));
        x.cell(1, 0, 61);
        CHECKS.due("bestMove(0) between two", 20, () -> x.bestMove(0));
        CHECKS.same("the threshold stays", "41", Pictures.thresholds(x));
        // As it is, it is best.
        BandEngraver even = greys(30, 30);
        CHECKS.due("bestMove(0) of one grey", 50, () -> even.bestMove(0));
        CHECKS.noSuch("bestMove(1)", () -> even.bestMove(1));
        CHECKS.noSuch("bestMove(-1)", () -> even.bestMove(-1));
        BandEngraver ends = greys(0, 99);
        ends.threshold(50, false);
        ends.threshold(99, true);
        CHECKS.due("bestMove(0) where all are as good", 99, () -> ends.bestMove(0));
        ends.least(2);
        ends.threshold(3, true);
        CHECKS.due("bestMove(0) with a least size", 3, () -> ends.bestMove(0));
    }

    private static void bestMoveBesideOthers() {
        // 20 is taken by the other one, so 19 is the next.
        BandEngraver x = greys(20, 60, 20);
        x.threshold(20, true);
        x.threshold(50, false);
        x.threshold(30, true);
        CHECKS.due("bestMove(1), the other one at 20", 19, () -> x.bestMove(1));
        // Moved over the other one: 61 and above leave the bands by 55 alone.
        BandEngraver y = greys(0, 60, 0, 54);
        y.threshold(55, true);
        CHECKS.due("bestMove(0) over the other one", 54 + 2, () -> y.bestMove(0));
        BandEngraver z = greys(10, 20);
        z.share(0);
        CHECKS.noSuch("bestMove(0) without thresholds", () -> z.bestMove(0));
    }

    private static void ifCell() {
        BandEngraver x = Pictures.plate("0010", "0011");
        CHECKS.due("ifCell as it is, 0", 4, () -> x.ifCell(0, 0, 0, 0));
        CHECKS.due("ifCell as it is, 1", 3, () -> x.ifCell(0, 0, 0, 1));
        CHECKS.due("ifCell as it is, 2", 0, () -> x.ifCell(0, 0, 0, 2));
        CHECKS.due("ifCell(3, 0, 10, 0)", 4, () -> x.ifCell(3, 0, 10, 0));
        CHECKS.due("ifCell(3, 0, 10, 1)", 2, () -> x.ifCell(3, 0, 10, 1));
        CHECKS.due("ifCell(3, 0, 10, 2)", 1, () -> x.ifCell(3, 0, 10, 2));
        CHECKS.due("ifCell(2, 0, 99, 0)", 1, () -> x.ifCell(2, 0, 99, 0));
        CHECKS.due("ifCell(2, 0, 99, 1)", 4, () -> x.ifCell(2, 0, 99, 1));
        x.least(2);
        CHECKS.due("ifCell of a merged one, now its own band", 0, () -> x.ifCell(3, 0, 10, 2));
        // The greys 0010/0001 then, of which one after the other goes with the zeros.
        CHECKS.due("ifCell(2, 1, 0, 2)", 4, () -> x.ifCell(2, 1, 0, 2));
        CHECKS.due("ifCell(2, 1, 0, 0)", 8, () -> x.ifCell(2, 1, 0, 0));
        CHECKS.noSuch("ifCell(4, 0)", () -> x.ifCell(4, 0, 0, 0));
        CHECKS.noSuch("ifCell(0, 2)", () -> x.ifCell(0, 2, 0, 0));
        CHECKS.noSuch("ifCell(-1, 0)", () -> x.ifCell(-1, 0, 0, 0));
        CHECKS.noSuch("ifCell(0, -1)", () -> x.ifCell(0, -1, 0, 0));
        CHECKS.noSuch("ifCell(4, 0, 100)", () -> x.ifCell(4, 0, 100, 0));
        CHECKS.outOfRange("ifCell, grey 100", () -> x.ifCell(0, 0, 100, 0));
        CHECKS.outOfRange("ifCell, grey -1", () -> x.ifCell(0, 0, -1, 0));
        CHECKS.outOfRange("ifCell, what -1", () -> x.ifCell(0, 0, 0, -1));
        CHECKS.outOfRange("ifCell, what 3", () -> x.ifCell(0, 0, 0, 3));
    }

    private static void scriptArguments() {
        BandEngraver x = new BandEngraver();
        CHECKS.outOfRange("n 0", () -> x.runScript(0, 0));
        CHECKS.outOfRange("n 3", () -> x.runScript(3, 0));
        CHECKS.outOfRange("negative", () -> x.runScript(1, -1));
        CHECKS.outOfRange("lowest", () -> x.runScript(2, Long.MIN_VALUE));
        CHECKS.outOfRange("nine digits", () -> x.runScript(1, 100000000L));
        CHECKS.due("eight digits", 0, () -> x.runScript(1, 99999999L));
        CHECKS.outOfRange("17 digits", () -> x.runScript(2, 10000000000000000L));
        CHECKS.outOfRange("highest", () -> x.runScript(2, Long.MAX_VALUE));
        CHECKS.due("16 digits", 0, () -> x.runScript(2, 9999999999999999L));
        CHECKS.due("no command", 0, () -> x.runScript(1, 0));
    }

    /** One command: whether it succeeds, alone and behind another one. */
    private static void command(BandEngraver x, long group, boolean succeeds) {
        CHECKS.due("script " + group, succeeds ? -1 : 0, () -> x.runScript(1, group));
        CHECKS.due("script 8...999 and " + group, succeeds ? -1 : 1,
                () -> x.runScript(2, 80000999L * 100000000L + group));
    }

    private static void scriptCommands() {
        BandEngraver x = new BandEngraver();
        x.plate(12, 5);
        command(x, 11104990, true);
        command(x, 11104991, false);
        command(x, 11204990, false);
        command(x, 11105990, false);
        command(x, 20000999, false);
        command(x, 20000994, true);
        command(x, 20000995, false);
        command(x, 20704994, false);
        command(x, 20800994, false);
        command(x, 20700994, true);
        command(x, 21104000, true);
        command(x, 40100000, true);
        command(x, 43000000, true);
        command(x, 43100000, false);
        command(x, 40000000, false);
        command(x, 40110000, false);
        command(x, 40100001, false);
        command(x, 50000000, true);
        command(x, 50000001, false);
        command(x, 51000000, false);
        command(x, 60000000, true);
        command(x, 60000001, false);
        command(x, 61000000, false);
        command(x, 10000000L - 1, false);
        command(x, 0, false);
    }

    private static void scriptThresholds() {
        BandEngraver x = new BandEngraver();
        command(x, 35000000, true);
        command(x, 35010000, false);
        command(x, 35110000, true);
        command(x, 35100000, false);
        command(x, 30110000, true);
        command(x, 39910000, true);
        command(x, 30010000, false);
        command(x, 35120000, false);
        command(x, 35020000, false);
        command(x, 35111000, false);
        command(x, 35001000, false);
        command(x, 35110001, false);
        for (int v = 1; v <= 4; v++) {
            x.threshold(v, true);
        }
        command(x, 35110000, false);
        command(x, 35000000, true);
    }

    private static void scriptQuestions() {
        BandEngraver x = Pictures.plate("0010", "0011");
        command(x, 70000004, true);
        command(x, 70000005, false);
        command(x, 70010003, true);
        command(x, 70010004, false);
        command(x, 70020001, true);
        command(x, 70020000, true);
        command(x, 70030000, false);
        command(x, 79990000, false);
        command(x, 70001004, false);
        command(x, 80000003, true);
        command(x, 80000002, false);
        command(x, 80000999, true);
        command(x, 80001999, false);
        command(x, 81000999, false);
        command(x, 90200001, true);
        command(x, 90200000, false);
        command(x, 90200009, false);
        command(x, 90301001, true);
        command(x, 90400000, false);
        command(x, 90002000, false);
        command(x, 90200011, false);
        command(x, 90200101, false);
        x.least(2);
        command(x, 90300001, true);
        command(x, 90300000, false);
        command(x, 80000001, false);
        command(x, 80000002, true);
        command(x, 70010004, true);
        BandEngraver many = Pictures.plate("010101010101", "101010101010");
        for (long i = 0; i < 24; i++) {
            command(many, 70000001 + i * 10000, true);
            command(many, 70000002 + i * 10000, false);
        }
        command(many, 70240000, false);
    }

    private static void pair(BandEngraver x, long first, long second, int want) {
        CHECKS.due("script " + first + " " + second, want,
                () -> x.runScript(2, first * 100000000L + second));
    }

    private static void scriptsOfTwo() {
        BandEngraver x = Pictures.plate("0010", "0011");
        pair(x, 0, 50000000, 0);
        pair(x, 10200000, 90200000, -1);
        pair(x, 10200000, 90200001, 1);
        pair(x, 20000102, 80000002, 0);
        pair(x, 20000101, 80000002, -1);
        pair(x, 20000101, 80000001, 1);
        pair(x, 20000100, 70000004, 1);
        pair(x, 20000001, 80000003, -1);
        pair(x, 40200000, 80000002, -1);
        pair(x, 40200000, 80000001, 1);
        pair(x, 60000000, 90000005, -1);
        pair(x, 50000000, 90200000, -1);
        pair(x, 31000000, 80000001, -1);
        pair(x, 30510000, 90200002, 0);
        pair(x, 31000000, 30510000, -1);
        pair(x, 80000001, 0, 0);
    }

    private static void simulateArguments() {
        BandEngraver x = new BandEngraver();
        CHECKS.outOfRange("simulate(0, 0)", () -> x.simulate(0, 0));
        CHECKS.outOfRange("simulate(0, 61)", () -> x.simulate(0, 61));
        CHECKS.due("simulate(4, 1), out of the plate", 10000, () -> x.simulate(4, 1));
        String answer = Checks.answer(() -> x.simulate(Long.MIN_VALUE, 60));
        CHECKS.same("simulate of 60 turns is answered", "false",
                Boolean.toString(answer.startsWith("throws")));
    }

    /** What the first turn of a seed is was found out by a program of another language. */
    private static void simulateTurns() {
        BandEngraver x = new BandEngraver();
        // 5: cell(2, 3, 94): another island of one cell: 1 for its hatching, 4 for its lines.
        CHECKS.due("a cell", 20005, () -> x.simulate(5, 1));
        // 3: box(4, 7, 1, 4, 89): 16 cells at the right edge, 12 lines.
        CHECKS.due("a box", 20028, () -> x.simulate(3, 1));
        // 9: box(1, 3, 4, 7, 45): below the threshold.
        CHECKS.due("a box of the same band", 10000, () -> x.simulate(9, 1));
        // 15: box(10, 11, 6, 9, 1) is out of the plate.
        CHECKS.due("a box out of the plate", 10000, () -> x.simulate(15, 1));
        // 25: invert, as q / 32 % 3 is not 0.
        CHECKS.due("invert", 10064, () -> x.simulate(25, 1));
        x.cell(0, 0, 70);
        x.cell(7, 7, 93);
        // 2: threshold(94, in); 32: threshold(90, in).
        CHECKS.due("two dots", 30006, () -> x.simulate(4, 1));
        CHECKS.due("a threshold above", 30006, () -> x.simulate(2, 1));
        CHECKS.due("a threshold between", 30007, () -> x.simulate(32, 1));
        // 8: threshold(19, out) is left out.
        CHECKS.due("a threshold out", 30006, () -> x.simulate(8, 1));
        // 13: least(23).
        CHECKS.due("a least size", 10000, () -> x.simulate(13, 1));
        // 1: blur: 280 / 6 and 372 / 6, and beside it 93 / 7.
        CHECKS.due("blur", 20003, () -> x.simulate(1, 1));
        // 12: spread(42): 70 and 93 become 99.
        x.threshold(98, true);
        CHECKS.due("no spread", 30006, () -> x.simulate(4, 1));
        CHECKS.due("spread", 30008, () -> x.simulate(12, 1));
    }

    private static void nothingIsChanged() {
        BandEngraver x = Pictures.plate("0120345", "2222531", "1234500");
        x.least(2);
        x.save(0);
        x.restore(0);
        x.line(2);
        String before = Pictures.all(x);
        x.ifLeast(9, 2);
        x.leastFor(1);
        x.bestMove(2);
        x.ifCell(1, 1, 99, 2);
        x.runScript(2, 6000000040900000L);
        x.runScript(2, 3100000020000991L);
        for (int seed = 0; seed < 40; seed++) {
            x.simulate(seed, 60);
        }
        x.save(1);
        CHECKS.same("all is as it was", before, Pictures.all(x));
        CHECKS.due("what was remembered", 0, () -> x.undo());
        CHECKS.due("restore(0)", Integer.parseInt(Checks.answer(() -> x.about(10))), () -> x.restore(0));
    }

    private static void slots() {
        BandEngraver x = new BandEngraver();
        CHECKS.noSuch("save(2)", () -> x.save(2));
        CHECKS.noSuch("save(-1)", () -> x.save(-1));
        CHECKS.noSuch("restore(2)", () -> x.restore(2));
        CHECKS.noSuch("restore(-1)", () -> x.restore(-1));
        CHECKS.wrongState("restore(0), empty", () -> x.restore(0));
        CHECKS.wrongState("restore(1), empty", () -> x.restore(1));
        CHECKS.due("save(0)", 0, () -> x.save(0));
        CHECKS.wrongState("restore(1), still empty", () -> x.restore(1));
        x.cell(0, 0, 42);
        CHECKS.due("save(1)", 42, () -> x.save(1));
        CHECKS.wrongState("undo behind save", () -> {
            x.undo();
            return x.undo();
        });
    }

    private static void restore() {
        BandEngraver x = Pictures.plate("012", "345");
        x.least(2);
        x.line(7);
        x.hatch(3, 8);
        String saved = Pictures.all(x);
        CHECKS.due("save(0)", 150, () -> x.save(0));
        x.plate(3, 3);
        x.share(1);
        x.least(5);
        x.line(1);
        x.hatch(3, 1);
        CHECKS.due("save(1)", 0, () -> x.save(1));
        x.append('E');
        CHECKS.due("restore(0)", 150, () -> x.restore(0));
        CHECKS.due("the text stays", 1, () -> x.clearText());
        CHECKS.same("restored", saved, Pictures.all(x));
        CHECKS.wrongState("undo behind restore", () -> x.undo());
        x.invert();
        CHECKS.due("undo goes again", 0, () -> x.undo());
        x.invert();
        CHECKS.due("the slot keeps it", 150, () -> x.restore(0));
        CHECKS.same("restored again", saved, Pictures.all(x));
        CHECKS.due("restore(1)", 0, () -> x.restore(1));
        CHECKS.due("its rows", 3, () -> x.about(1));
        CHECKS.due("its least size", 5, () -> x.about(3));
        CHECKS.wrongState("undo behind restore(1)", () -> x.undo());
    }
}
