/** The sentences of "Terms" about exceptions, and about what changes nothing. */
final class RefusalSentences {
    private final Sentences s;

    RefusalSentences(Sentences sentences) {
        s = sentences;
    }

    void show() {
        s.of("Terms");
        kinds();
        order();
        refusedCalls();
        questions();
    }

    /** A call on an object that has all 14 states remembered, a save slot and a text. */
    private interface Call {
        long of(BandEngraver x);
    }

    private static BandEngraver busy() {
        BandEngraver x = Pictures.plate("0120", "2222");
        x.hatch(5, 7);
        x.save(0);
        x.least(2);
        x.line(3);
        Pictures.write(x, "E0101m");
        return x;
    }

    /** Nothing is changed: not what is told, not what is remembered, not the save slots, not the text. */
    private static void changesNothing(Checks c, String name, BandEngraver x, String before) {
        c.same(name + ": the state", before, Pictures.all(x));
        c.due(name + ": undo", 13, () -> x.undo());
        c.due(name + ": the line behind undo", 1, () -> x.about(9));
        c.due(name + ": undo again", 12, () -> x.undo());
        c.due(name + ": the least size behind undo", 1, () -> x.about(3));
        c.wrongState(name + ": the empty slot", () -> x.restore(1));
        c.due(name + ": the other slot", 110, () -> x.restore(0));
        c.due(name + ": its hatching", 7, () -> x.band(5, 0));
        c.due(name + ": the text", 6, () -> x.clearText());
    }

    private static void refused(Checks c, String name, String exception, Call call) {
        BandEngraver x = busy();
        String before = Pictures.all(x);
        c.same(name, "throws." + exception, Checks.answer(() -> call.of(x)));
        changesNothing(c, name, x, before);
    }

    private static void noSuch(Checks c, String name, Call call) {
        refused(c, name, "IndexOutOfBoundsException", call);
    }

    private static void outOfRange(Checks c, String name, Call call) {
        refused(c, name, "IllegalArgumentException", call);
    }

    private static void wrongState(Checks c, String name, Call call) {
        refused(c, name, "IllegalStateException", call);
    }

    private void kinds() {
        s.holds("IndexOutOfBoundsException means that a column, a row, a cell, an island, a threshold, a band or a side does not exist, or that a save slot is not 0 or 1.", c -> {
            BandEngraver x = busy();
            c.noSuch("a column", () -> x.cellOf(4, 0, 0));
            c.noSuch("a row", () -> x.cellOf(0, 2, 0));
            c.noSuch("an island", () -> x.island(2, 0));
            c.noSuch("a threshold", () -> x.thresholdAt(5));
            c.noSuch("a band", () -> x.band(6, 0));
            c.noSuch("a side", () -> x.outlineWay(0, 99));
            c.noSuch("a save slot 2", () -> x.save(2));
            c.noSuch("a save slot -1", () -> x.restore(-1));
            c.noSuch("a save slot that is highest", () -> x.save(Integer.MAX_VALUE));
            c.noSuch("a save slot that is lowest", () -> x.restore(Integer.MIN_VALUE));
        });
        s.holds("IllegalArgumentException means that another argument is out of its range.", c -> {
            BandEngraver x = busy();
            c.outOfRange("a what", () -> x.about(11));
            c.outOfRange("a grey", () -> x.cell(0, 0, 100));
            c.outOfRange("a value", () -> x.least(0));
            c.outOfRange("a number of commands", () -> x.runScript(3, 0));
        });
        s.holds("IllegalStateException means what the method says.", c -> {
            BandEngraver x = busy();
            c.wrongState("load of what is not a plate", () -> x.load());
            c.wrongState("restore of an empty slot", () -> x.restore(1));
            c.wrongState("threshold, a sixth", () -> x.threshold(60, true));
            c.wrongState("undo of nothing", () -> new BandEngraver().undo());
        });
        s.holds("`NONE = -1`: There is no such result.", c -> {
            c.due("NONE", -1, () -> BandEngraver.NONE);
            c.due("no mother", -1, () -> new BandEngraver().island(0, 7));
        });
    }

    private void order() {
        s.holds("If several exceptions apply to a call, the one that its description names first is thrown.", c -> {
            BandEngraver x = busy();
            c.noSuch("cellOf", () -> x.cellOf(4, 2, 6));
            c.noSuch("island", () -> x.island(2, 9));
            c.noSuch("outline", () -> x.outline(2, 3));
            c.noSuch("band", () -> x.band(6, 4));
            c.noSuch("cell", () -> x.cell(4, 0, 100));
            c.noSuch("box, a bad grey", () -> x.box(0, 4, 0, 0, 100));
            c.noSuch("box, going back", () -> x.box(4, 0, 0, 0, 1));
            c.noSuch("box, rows going back", () -> x.box(0, -1, 1, 0, 1));
            c.noSuch("hatch", () -> x.hatch(6, 10));
            c.noSuch("ifCell, a bad grey", () -> x.ifCell(4, 0, 100, 0));
            c.noSuch("ifCell, a bad what", () -> x.ifCell(0, 2, 0, 3));
            c.noSuch("restore", () -> x.restore(2));
            c.outOfRange("threshold, put in where there are five", () -> x.threshold(0, true));
            c.outOfRange("threshold, taken out", () -> x.threshold(100, false));
            for (int k = 0; k < 114; k++) {
                x.append('u');
            }
            c.outOfRange("append to a full text", () -> x.append(-1));
            c.wrongState("append to a full text, in range", () -> x.append(0));
        });
    }

    private void refusedCalls() {
        s.holds("A call that throws an exception changes nothing.", c -> {
            outOfRange(c, "append", x -> x.append(256));
            wrongState(c, "load", x -> x.load());
            outOfRange(c, "about", x -> x.about(-1));
            noSuch(c, "cellOf", x -> x.cellOf(0, 2, 0));
            outOfRange(c, "cellOf, what", x -> x.cellOf(0, 0, 6));
            noSuch(c, "thresholdAt", x -> x.thresholdAt(5));
            noSuch(c, "island", x -> x.island(9, 0));
            outOfRange(c, "island, what", x -> x.island(0, 9));
            noSuch(c, "border", x -> x.border(0, 9));
            noSuch(c, "outline", x -> x.outline(9, 0));
            noSuch(c, "outlineWay", x -> x.outlineWay(0, -1));
            noSuch(c, "band", x -> x.band(6, 0));
            outOfRange(c, "ifLeast", x -> x.ifLeast(31, 0));
            outOfRange(c, "leastFor", x -> x.leastFor(0));
            noSuch(c, "bestMove", x -> x.bestMove(5));
            noSuch(c, "ifCell", x -> x.ifCell(4, 0, 0, 0));
            outOfRange(c, "ifCell, grey", x -> x.ifCell(0, 0, 100, 0));
            outOfRange(c, "runScript", x -> x.runScript(1, -1));
            outOfRange(c, "simulate", x -> x.simulate(0, 61));
            noSuch(c, "save", x -> x.save(2));
            noSuch(c, "restore", x -> x.restore(2));
            wrongState(c, "restore, empty", x -> x.restore(1));
            refusedActions(c);
        });
    }

    private static void refusedActions(Checks c) {
        outOfRange(c, "plate, columns", x -> x.plate(0, 5));
        outOfRange(c, "plate, rows", x -> x.plate(5, 13));
        noSuch(c, "cell", x -> x.cell(0, 2, 9));
        outOfRange(c, "cell, grey", x -> x.cell(0, 0, 100));
        noSuch(c, "box", x -> x.box(0, 4, 0, 1, 9));
        outOfRange(c, "box, grey", x -> x.box(0, 3, 0, 1, 100));
        outOfRange(c, "box, going back", x -> x.box(1, 0, 0, 1, 9));
        outOfRange(c, "threshold", x -> x.threshold(100, true));
        wrongState(c, "threshold, put in", x -> x.threshold(60, true));
        wrongState(c, "threshold, taken out", x -> x.threshold(60, false));
        outOfRange(c, "share", x -> x.share(6));
        outOfRange(c, "least", x -> x.least(31));
        noSuch(c, "hatch", x -> x.hatch(6, 0));
        outOfRange(c, "hatch, ink", x -> x.hatch(5, 10));
        outOfRange(c, "line", x -> x.line(10));
        outOfRange(c, "spread", x -> x.spread(50));
        outOfRange(c, "noise", x -> x.noise(7, 51));
    }

    private static void asked(Checks c, String name, Call call) {
        BandEngraver x = busy();
        String before = Pictures.all(x);
        call.of(x);
        changesNothing(c, name, x, before);
    }

    private void questions() {
        s.holds("what would be; these and all following methods up to the save slots change nothing.", c -> {
            for (int what = 0; what <= 2; what++) {
                int w = what;
                asked(c, "ifLeast", x -> x.ifLeast(30, w));
                asked(c, "ifCell", x -> x.ifCell(0, 0, 99, w));
            }
            asked(c, "leastFor", x -> x.leastFor(1));
            for (int k = 0; k < 5; k++) {
                int t = k;
                asked(c, "bestMove", x -> x.bestMove(t));
            }
            long[] commands = {10000990L, 20000991L, 30510000L, 31010000L, 33000000L, 43000000L, 50000000L, 60000000L, 70000001L, 80000009L, 90000000L, 99999999L};
            for (long first : commands) {
                for (long second : commands) {
                    asked(c, "runScript " + first + " " + second, x -> x.runScript(2, first * 100000000L + second));
                }
            }
            for (int seed = 0; seed < 30; seed++) {
                int told = seed;
                asked(c, "simulate", x -> x.simulate(told, 60));
            }
        });
    }
}
