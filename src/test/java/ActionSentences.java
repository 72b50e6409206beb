import java.util.function.LongSupplier;

/** The sentences of the actions and of undo: those of "Terms", and promises 15 to 27. */
final class ActionSentences {
    private final Sentences s;

    ActionSentences(Sentences sentences) {
        s = sentences;
    }

    void show() {
        s.of("Terms");
        stateAndActions();
        remembered();
        toldAnew();
        s.of("Promise 15");
        plate();
        s.of("Promise 16");
        cell();
        s.of("Promise 17");
        box();
        boxRefuses();
        s.of("Promise 18");
        threshold();
        thresholdRefuses();
        s.of("Promise 19");
        share();
        s.of("Promise 20");
        least();
        s.of("Promise 21");
        hatch();
        s.of("Promise 22");
        line();
        s.of("Promise 23");
        blur();
        s.of("Promise 24");
        invert();
        s.of("Promise 25");
        spread();
        s.of("Promise 26");
        noise();
        noiseOverflows();
        s.of("Promise 27");
        undo();
    }

    // ---- actions and undo

    private void stateAndActions() {
        s.holds("change the state, which consists of everything but the text and the save slots.", c -> {
            BandEngraver x = new BandEngraver();
            x.cell(0, 0, 1);
            x.append('E');
            x.save(1);
            x.cell(0, 0, 2);
            c.due("undo", 1, () -> x.undo());
            c.due("undo again", 0, () -> x.undo());
            c.due("the text stays", 1, () -> x.clearText());
            c.due("the save slot stays", 1, () -> x.restore(1));
        });
        s.holds("Each call of one of them that does not throw an exception is an action, also if nothing becomes different (undo is none).", c -> {
            unchanged(c, "plate", x -> x.plate(1, 1));
            unchanged(c, "cell", x -> x.cell(0, 0, 0));
            unchanged(c, "box", x -> x.box(0, 0, 0, 0, 0));
            unchanged(c, "share", x -> x.share(1));
            unchanged(c, "least", x -> x.least(1));
            unchanged(c, "hatch", x -> x.hatch(5, 5));
            unchanged(c, "line", x -> x.line(1));
            unchanged(c, "blur", x -> x.blur());
            unchanged(c, "spread", x -> x.spread(1));
            unchanged(c, "noise", x -> x.noise(Seeds.forNumber(1), 1));
        });
    }

    private interface Call {
        int of(BandEngraver x);
    }

    /** Undo goes back to between a call that makes nothing different and the next one, and then ahead of both. */
    private static void unchanged(Checks c, String name, Call call) {
        BandEngraver x = new BandEngraver();
        x.plate(1, 1);
        x.share(1);
        String before = Pictures.all(x);
        call.of(x);
        c.same(name + " makes nothing different", before, Pictures.all(x));
        x.line(7);
        c.due("undo of what came behind " + name, 3, () -> x.undo());
        c.due("undo of " + name, 2, () -> x.undo());
        c.same("what is ahead of " + name, before, Pictures.all(x));
    }

    /** What has been asked ahead of a change makes no difference to what is told behind it. */
    private static void toldAnew(Checks c, String name, Call call) {
        BandEngraver asked = nested();
        BandEngraver unasked = nested();
        String before = Pictures.everything(asked);
        call.of(asked);
        call.of(unasked);
        String behind = Pictures.everything(asked);
        c.yes(name + " makes a difference", !before.equals(behind));
        c.same("all that is told behind " + name, Pictures.everything(unasked), behind);
        c.same("once more", behind, Pictures.everything(asked));
    }

    /** Islands in islands, which every action changes; there is something to undo, to load and to restore. */
    private static BandEngraver nested() {
        BandEngraver x = new BandEngraver();
        Pictures.write(x, "E0506b0104010490t90");
        x.box(2, 6, 2, 6, 33);
        x.save(0);
        x.cell(7, 7, 12);
        x.threshold(20, true);
        x.threshold(80, true);
        x.box(1, 6, 1, 6, 99);
        x.box(2, 5, 2, 5, 10);
        x.box(3, 4, 3, 4, 60);
        return x;
    }

    private void toldAnew() {
        s.holds("All that is told of bands and islands is told of these, if nothing else is said.", c -> {
            toldAnew(c, "plate", x -> x.plate(4, 3));
            toldAnew(c, "cell", x -> x.cell(3, 3, 10));
            toldAnew(c, "box", x -> x.box(1, 1, 0, 7, 0));
            toldAnew(c, "threshold, put in", x -> x.threshold(5, true));
            toldAnew(c, "threshold, taken out", x -> x.threshold(20, false));
            toldAnew(c, "share", x -> x.share(1));
            toldAnew(c, "least", x -> x.least(9));
            toldAnew(c, "hatch", x -> x.hatch(1, 9));
            toldAnew(c, "line", x -> x.line(9));
            toldAnew(c, "blur", x -> x.blur());
            toldAnew(c, "invert", x -> x.invert());
            toldAnew(c, "spread", x -> x.spread(45));
            toldAnew(c, "noise", x -> x.noise(3, 50));
            toldAnew(c, "undo", x -> x.undo());
            toldAnew(c, "load", x -> x.load());
            toldAnew(c, "restore", x -> x.restore(0));
        });
    }

    private static BandEngraver afterActions(int times) {
        BandEngraver x = new BandEngraver();
        for (int k = 0; k < times; k++) {
            x.cell(0, 0, k + 1);
        }
        return x;
    }

    private void remembered() {
        s.holds("Before each action, the state is remembered.", c -> {
            BandEngraver x = afterActions(3);
            c.due("undo", 2, () -> x.undo());
            c.due("the grey", 2, () -> x.cellOf(0, 0, 0));
            c.due("undo", 1, () -> x.undo());
            c.due("the grey", 1, () -> x.cellOf(0, 0, 0));
            c.due("undo", 0, () -> x.undo());
            c.due("the grey", 0, () -> x.cellOf(0, 0, 0));
            c.wrongState("undo", () -> x.undo());
        });
        s.holds("At most 14 states are remembered", c -> {
            c.due("undo of the 13th", 12, () -> afterActions(13).undo());
            c.due("undo of the 14th", 13, () -> afterActions(14).undo());
            c.due("undo of the 15th", 13, () -> afterActions(15).undo());
            c.due("undo of the 99th", 13, () -> afterActions(99).undo());
        });
        s.holds("when one more is remembered, the oldest one is forgotten.", c -> {
            for (int times = 14; times <= 45; times++) {
                BandEngraver x = afterActions(times);
                for (int k = 1; k <= 14; k++) {
                    int grey = times - k;
                    c.due("undo " + k + " of " + times, 14 - k, () -> x.undo());
                    c.due("the grey", grey, () -> x.cellOf(0, 0, 0));
                }
                c.wrongState("undo of what is forgotten", () -> x.undo());
            }
            // Two taken back and three more: again one too many.
            BandEngraver y = afterActions(14);
            y.undo();
            y.undo();
            y.cell(0, 0, 50);
            y.cell(0, 0, 60);
            y.cell(0, 0, 70);
            c.due("undo", 13, () -> y.undo());
            for (int k = 0; k < 13; k++) {
                y.undo();
            }
            c.due("the oldest grey", 1, () -> y.cellOf(0, 0, 0));
            c.wrongState("undo", () -> y.undo());
        });
        s.holds("load and restore are not actions.", c -> {
            BandEngraver x = new BandEngraver();
            Pictures.write(x, "E0101");
            x.load();
            c.wrongState("undo behind load", () -> x.undo());
            x.save(0);
            x.restore(0);
            c.wrongState("undo behind restore", () -> x.undo());
            x.line(2);
            x.save(1);
            c.due("undo behind save", 0, () -> x.undo());
            x.append('E');
            x.clearText();
            x.errorPosition();
            c.wrongState("undo behind what is done to the text", () -> x.undo());
        });
    }

    // ---- 15: plate

    private void plate() {
        s.holds("`columns`: 1 to 12", c -> {
            for (int k = 1; k <= 12; k++) {
                int columns = k;
                BandEngraver x = new BandEngraver();
                c.due("plate(" + k + ", 5)", 5 * k, () -> x.plate(columns, 5));
                c.due("the columns", k, () -> x.about(0));
            }
        });
        s.holds("`rows`: 1 to 12", c -> {
            for (int k = 1; k <= 12; k++) {
                int rows = k;
                BandEngraver x = new BandEngraver();
                c.due("plate(5, " + k + ")", 5 * k, () -> x.plate(5, rows));
                c.due("the rows", k, () -> x.about(1));
            }
        });
        s.holds("Takes another plate: all greys are 0; thresholds, least size, hatchings and line stay.", c -> {
            BandEngraver x = new BandEngraver();
            x.box(0, 7, 0, 7, 70);
            x.threshold(20, true);
            x.threshold(50, false);
            x.least(4);
            x.hatch(1, 9);
            x.hatch(5, 0);
            x.line(5);
            x.plate(12, 12);
            c.due("the greys of a larger one", 0, () -> x.about(10));
            x.box(0, 11, 0, 11, 70);
            x.plate(2, 1);
            x.plate(12, 12);
            c.due("the greys of a smaller and a larger one", 0, () -> x.about(10));
            x.cell(0, 0, 9);
            x.plate(12, 12);
            c.due("the greys of one as large", 0, () -> x.about(10));
            c.same("the thresholds", "20", Pictures.thresholds(x));
            c.due("the least size", 4, () -> x.about(3));
            c.due("the hatching", 9, () -> x.hatch(1, 1));
            c.due("the hatching of a band without cells", 0, () -> x.hatch(5, 1));
            c.due("the line", 5, () -> x.about(9));
        });
        s.holds("Returns its cells, how many.", c -> {
            c.due("the smallest", 1, () -> new BandEngraver().plate(1, 1));
            c.due("the largest", 144, () -> new BandEngraver().plate(12, 12));
            c.due("3 columns and 5 rows", 15, () -> new BandEngraver().plate(3, 5));
        });
        s.holds("Throws `IllegalArgumentException` if an argument is out of range", c -> {
            BandEngraver x = new BandEngraver();
            for (int bad : new int[] {0, 13, -1, Integer.MIN_VALUE, Integer.MAX_VALUE}) {
                c.outOfRange("plate(" + bad + ", 8)", () -> x.plate(bad, 8));
                c.outOfRange("plate(8, " + bad + ")", () -> x.plate(8, bad));
                c.outOfRange("plate(" + bad + ", " + bad + ")", () -> x.plate(bad, bad));
            }
            c.due("the columns then", 8, () -> x.about(0));
            c.due("the rows then", 8, () -> x.about(1));
            c.wrongState("undo then", () -> x.undo());
        });
    }

    // ---- 16: cell

    private void cell() {
        s.holds("`x`: column", c -> c.due("the last column", 0, () -> new BandEngraver().cell(7, 0, 5)));
        s.holds("`y`: row", c -> c.due("the last row", 0, () -> new BandEngraver().cell(0, 7, 5)));
        s.holds("`grey`: 0 to 99", c -> {
            BandEngraver x = new BandEngraver();
            x.cell(0, 0, 50);
            for (int k = 0; k <= 99; k++) {
                int grey = k;
                c.due("cell(0, 0, " + k + ")", k == 0 ? 50 : k - 1, () -> x.cell(0, 0, grey));
            }
        });
        s.holds("Changes a cell.", c -> {
            BandEngraver x = new BandEngraver();
            x.plate(3, 2);
            x.cell(2, 1, 99);
            x.cell(0, 1, 4);
            x.cell(1, 0, 7);
            c.same("the greys", "0 7 0/4 0 99", Pictures.greys(x));
        });
        s.holds("Returns the previous grey.", c -> {
            BandEngraver x = new BandEngraver();
            c.due("at first", 0, () -> x.cell(4, 4, 99));
            c.due("then", 99, () -> x.cell(4, 4, 99));
            c.due("the same again", 99, () -> x.cell(4, 4, 0));
        });
        s.holds("Throws `IndexOutOfBoundsException` if there is no such column or row", c -> {
            BandEngraver x = new BandEngraver();
            x.plate(3, 2);
            for (int bad : new int[] {-1, 3, 8, 12, Integer.MIN_VALUE, Integer.MAX_VALUE}) {
                c.noSuch("the column " + bad, () -> x.cell(bad, 0, 1));
                c.noSuch("the row " + bad, () -> x.cell(0, bad, 1));
                c.noSuch("with a bad grey", () -> x.cell(bad, 0, 100));
            }
            c.noSuch("the row 2", () -> x.cell(0, 2, 1));
            c.due("the greys then", 0, () -> x.about(10));
        });
        s.holds("Throws `IllegalArgumentException` if grey is out of range", c -> {
            BandEngraver x = new BandEngraver();
            for (int bad : new int[] {-1, 100, Integer.MIN_VALUE, Integer.MAX_VALUE}) {
                c.outOfRange("the grey " + bad, () -> x.cell(0, 0, bad));
            }
            c.due("the greys then", 0, () -> x.about(10));
        });
    }

    // ---- 17: box

    private static void boxed(Checks c, String want, int x0, int x1, int y0, int y1) {
        BandEngraver x = new BandEngraver();
        x.plate(3, 3);
        int cells = (x1 - x0 + 1) * (y1 - y0 + 1);
        c.due("box " + want, cells, () -> x.box(x0, x1, y0, y1, 9));
        c.same("the greys", want, Pictures.greys(x).replace(" ", ""));
    }

    private void box() {
        s.holds("`x0`: first column", c -> boxed(c, "000/009/000", 2, 2, 1, 1));
        s.holds("`x1`: last column", c -> boxed(c, "999/000/000", 0, 2, 0, 0));
        s.holds("`y0`: first row", c -> boxed(c, "000/000/900", 0, 0, 2, 2));
        s.holds("`y1`: last row", c -> boxed(c, "090/090/090", 1, 1, 0, 2));
        s.holds("`grey`: 0 to 99", c -> {
            BandEngraver x = new BandEngraver();
            c.due("box of 99", 64, () -> x.box(0, 7, 0, 7, 99));
            c.due("the greys", 6336, () -> x.about(10));
            c.due("box of 0", 64, () -> x.box(0, 7, 0, 7, 0));
            c.due("the greys", 0, () -> x.about(10));
        });
        s.holds("Changes all cells of a box.", c -> {
            boxed(c, "999/999/999", 0, 2, 0, 2);
            boxed(c, "000/099/099", 1, 2, 1, 2);
            boxed(c, "990/990/000", 0, 1, 0, 1);
            boxed(c, "000/090/000", 1, 1, 1, 1);
        });
        s.holds("Returns how many cells are changed to another grey.", c -> {
            BandEngraver x = new BandEngraver();
            x.plate(4, 3);
            c.due("all", 12, () -> x.box(0, 3, 0, 2, 30));
            c.due("none", 0, () -> x.box(0, 3, 0, 2, 30));
            x.cell(1, 1, 31);
            c.due("one", 1, () -> x.box(0, 3, 0, 2, 30));
            x.cell(1, 1, 0);
            c.due("all but one", 11, () -> x.box(0, 3, 0, 2, 0));
        });
    }

    private void boxRefuses() {
        s.holds("Throws `IndexOutOfBoundsException` if there is no such column or row", c -> {
            BandEngraver x = new BandEngraver();
            x.plate(4, 3);
            for (int bad : new int[] {-1, 4, 12, Integer.MIN_VALUE, Integer.MAX_VALUE}) {
                c.noSuch("the first column " + bad, () -> x.box(bad, 3, 0, 2, 1));
                c.noSuch("the last column " + bad, () -> x.box(0, bad, 0, 2, 1));
                c.noSuch("the first row " + bad, () -> x.box(0, 3, bad, 2, 1));
                c.noSuch("the last row " + bad, () -> x.box(0, 3, 0, bad, 1));
                c.noSuch("with a bad grey too", () -> x.box(0, bad, 0, 2, 100));
                c.noSuch("with rows that go back too", () -> x.box(0, bad, 2, 1, 1));
            }
            c.noSuch("the last row 3", () -> x.box(0, 3, 0, 3, 1));
            c.due("the greys then", 0, () -> x.about(10));
        });
        s.holds("Throws `IllegalArgumentException` if grey is out of range, x1 is less than x0, or y1 than y0", c -> {
            BandEngraver x = new BandEngraver();
            c.outOfRange("the grey -1", () -> x.box(0, 1, 0, 1, -1));
            c.outOfRange("the grey 100", () -> x.box(0, 1, 0, 1, 100));
            c.outOfRange("the lowest grey", () -> x.box(0, 1, 0, 1, Integer.MIN_VALUE));
            c.outOfRange("columns that go back", () -> x.box(1, 0, 0, 7, 1));
            c.outOfRange("rows that go back", () -> x.box(0, 7, 7, 6, 1));
            c.outOfRange("both", () -> x.box(7, 0, 7, 0, 1));
            c.due("the greys then", 0, () -> x.about(10));
            c.due("as few as can be", 1, () -> x.box(7, 7, 7, 7, 1));
        });
    }

    // ---- 18: threshold

    private void threshold() {
        s.holds("`v`: 1 to 99", c -> {
            for (int k = 1; k <= 99; k++) {
                int v = k;
                BandEngraver x = new BandEngraver();
                x.share(0);
                c.due("threshold(" + k + ", in)", 1, () -> x.threshold(v, true));
                c.due("the threshold", k, () -> x.thresholdAt(0));
                c.due("threshold(" + k + ", out)", 0, () -> x.threshold(v, false));
            }
        });
        s.holds("`in`: whether it is put in", c -> {
            BandEngraver x = new BandEngraver();
            x.threshold(70, true);
            c.same("put in", "50 70", Pictures.thresholds(x));
            x.threshold(50, false);
            c.same("taken out", "70", Pictures.thresholds(x));
        });
        s.holds("Puts a threshold in, or takes one out.", c -> {
            BandEngraver x = new BandEngraver();
            x.cell(0, 0, 40);
            c.due("islands", 1, () -> x.about(4));
            x.threshold(40, true);
            c.due("islands with a threshold more", 2, () -> x.about(4));
            x.threshold(40, false);
            c.due("islands with a threshold less", 1, () -> x.about(4));
        });
        s.holds("Returns the thresholds then, how many.", c -> {
            BandEngraver x = new BandEngraver();
            for (int k = 1; k <= 4; k++) {
                int v = k;
                c.due("put in", k + 1, () -> x.threshold(v, true));
            }
            for (int k = 4; k >= 1; k--) {
                int v = k;
                c.due("taken out", k, () -> x.threshold(v, false));
            }
            c.due("the last one taken out", 0, () -> x.threshold(50, false));
        });
    }

    private void thresholdRefuses() {
        s.holds("Throws `IllegalArgumentException` if v is out of range", c -> {
            BandEngraver x = new BandEngraver();
            for (int bad : new int[] {0, 100, -1, Integer.MIN_VALUE, Integer.MAX_VALUE}) {
                c.outOfRange("put in " + bad, () -> x.threshold(bad, true));
                c.outOfRange("take out " + bad, () -> x.threshold(bad, false));
            }
            for (int v = 1; v <= 4; v++) {
                x.threshold(v, true);
            }
            c.outOfRange("put in 100 where there are five", () -> x.threshold(100, true));
            c.due("the thresholds then", 5, () -> x.about(2));
        });
        s.holds("Throws `IllegalStateException` if it is to be put in and is there", c -> {
            BandEngraver x = new BandEngraver();
            c.wrongState("put in 50", () -> x.threshold(50, true));
            x.threshold(99, true);
            x.threshold(1, true);
            c.wrongState("put in 99", () -> x.threshold(99, true));
            c.wrongState("put in 1", () -> x.threshold(1, true));
            c.same("the thresholds then", "1 50 99", Pictures.thresholds(x));
            c.due("undo then", 1, () -> x.undo());
        });
        s.holds("or there are 5", c -> {
            BandEngraver x = new BandEngraver();
            for (int v = 1; v <= 4; v++) {
                x.threshold(v, true);
            }
            c.wrongState("put in a sixth", () -> x.threshold(99, true));
            c.wrongState("put in one of the five", () -> x.threshold(4, true));
            c.same("the thresholds then", "1 2 3 4 50", Pictures.thresholds(x));
            c.due("take one out", 4, () -> x.threshold(50, false));
            c.due("put in another one", 5, () -> x.threshold(99, true));
        });
        s.holds("or if it is to be taken out and is not there", c -> {
            BandEngraver x = new BandEngraver();
            c.wrongState("take out 49", () -> x.threshold(49, false));
            c.wrongState("take out 51", () -> x.threshold(51, false));
            x.threshold(50, false);
            c.wrongState("take out 50 twice", () -> x.threshold(50, false));
            c.due("the thresholds then", 0, () -> x.about(2));
            c.due("undo then", 0, () -> x.undo());
            c.same("the thresholds behind undo", "50", Pictures.thresholds(x));
        });
    }

    // ---- 19: share

    private static void shared(Checks c, int n, String want, int... greys) {
        BandEngraver x = Pictures.row(greys);
        int count = want.isEmpty() ? 0 : want.split(" ").length;
        c.due("share(" + n + ") for " + want, count, () -> x.share(n));
        c.same("the thresholds of share(" + n + ")", want, Pictures.thresholds(x));
    }

    private void share() {
        s.holds("`n`: 0 to 5", c -> {
            shared(c, 0, "", 10, 20, 30, 40, 50, 60);
            shared(c, 1, "31", 10, 20, 30, 40, 50, 60);
            shared(c, 5, "11 21 31 41 51", 10, 20, 30, 40, 50, 60);
        });
        s.holds("for k from 1 to n the least v from 1 to 99 for which at least (the cells * k / (n + 1)) cells have a grey less than v", c -> {
            // Shares of 11 * k / 3: three cells and seven.
            shared(c, 2, "4 8", 1, 2, 3, 4, 5, 6, 7, 8, 9, 10, 11);
            // The order of the cells makes no difference.
            shared(c, 2, "4 8", 11, 9, 7, 5, 3, 1, 2, 4, 6, 8, 10);
            // A share of no cell is reached by 1, and so is one of black cells.
            shared(c, 1, "1", 70);
            shared(c, 1, "1", 0, 0, 0);
            shared(c, 3, "1 50 61", 60, 49, 80);
            shared(c, 1, "98", 97, 97, 99);
            shared(c, 1, "99", 98, 98, 99);
        });
        s.holds("(99 if there is none)", c -> {
            shared(c, 1, "99", 99, 99);
            shared(c, 5, "99", 99, 99, 99, 99, 99, 99);
            shared(c, 2, "51 99", 50, 99, 99);
            shared(c, 1, "99", 98, 99);
        });
        s.holds("each one once; these are the thresholds then.", c -> {
            shared(c, 5, "11", 10, 10, 10, 10, 10, 10);
            shared(c, 5, "11 61", 10, 10, 10, 60, 60, 60);
            shared(c, 3, "1 71", 70, 70);
            BandEngraver x = new BandEngraver();
            x.threshold(2, true);
            x.threshold(90, true);
            c.due("share where there are others", 1, () -> x.share(4));
            c.same("none of those stays", "1", Pictures.thresholds(x));
        });
        s.holds("Returns the thresholds then, how many.", c -> {
            BandEngraver x = Pictures.row(10, 20, 30, 40, 50, 60);
            for (int k = 0; k <= 5; k++) {
                int n = k;
                c.due("share(" + k + ")", k, () -> x.share(n));
                c.due("as about tells", k, () -> x.about(2));
            }
            c.due("of a black plate", 1, () -> new BandEngraver().share(5));
        });
        s.holds("Throws `IllegalArgumentException` if n is out of range", c -> {
            BandEngraver x = new BandEngraver();
            for (int bad : new int[] {-1, 6, Integer.MIN_VALUE, Integer.MAX_VALUE}) {
                c.outOfRange("share(" + bad + ")", () -> x.share(bad));
            }
            c.same("the thresholds then", "50", Pictures.thresholds(x));
        });
    }

    // ---- 20 to 22: least, hatch, line

    private void least() {
        s.holds("`v`: 1 to 30", c -> {
            BandEngraver x = new BandEngraver();
            for (int k = 1; k <= 30; k++) {
                int v = k;
                c.due("least(" + k + ")", k == 1 ? 1 : k - 1, () -> x.least(v));
                c.due("the least size", k, () -> x.about(3));
            }
        });
        s.holds("Changes the least size.", c -> {
            BandEngraver x = Pictures.plate("00112", "00112");
            x.least(2);
            c.due("islands of 2", 3, () -> x.about(4));
            x.least(3);
            c.due("islands of 3", 2, () -> x.about(4));
            x.least(1);
            c.due("islands of 1", 3, () -> x.about(4));
        });
        s.holds("Returns the previous one.", c -> {
            BandEngraver x = new BandEngraver();
            c.due("at first", 1, () -> x.least(30));
            c.due("then", 30, () -> x.least(30));
            c.due("the same again", 30, () -> x.least(1));
        });
        s.holds("Throws `IllegalArgumentException` if v is out of range", c -> {
            BandEngraver x = new BandEngraver();
            for (int bad : new int[] {0, 31, -1, Integer.MIN_VALUE, Integer.MAX_VALUE}) {
                c.outOfRange("least(" + bad + ")", () -> x.least(bad));
            }
            c.due("the least size then", 1, () -> x.about(3));
        });
    }

    private void hatch() {
        s.holds("`b`: band, 0 to 5", c -> {
            // Also bands that there are no thresholds for.
            BandEngraver x = new BandEngraver();
            x.share(0);
            for (int k = 0; k <= 5; k++) {
                int b = k;
                c.due("hatch(" + k + ", 7)", k, () -> x.hatch(b, 7));
            }
            c.due("ink of the only band", 448, () -> x.ink());
        });
        s.holds("`v`: 0 to 9", c -> {
            BandEngraver x = new BandEngraver();
            for (int k = 0; k <= 9; k++) {
                int v = k;
                c.due("hatch(0, " + k + ")", k == 0 ? 0 : k - 1, () -> x.hatch(0, v));
                c.due("ink", 64 * k, () -> x.ink());
            }
        });
        s.holds("Changes the hatching of a band.", c -> {
            BandEngraver x = Pictures.plate("012345");
            x.hatch(5, 0);
            x.hatch(0, 9);
            c.due("of the band 5", 0, () -> x.band(5, 0));
            c.due("of the band 0", 9, () -> x.band(0, 0));
            c.due("of the band 1", 1, () -> x.band(1, 0));
        });
        s.holds("Returns the previous one.", c -> {
            BandEngraver x = new BandEngraver();
            c.due("at first", 5, () -> x.hatch(5, 9));
            c.due("then", 9, () -> x.hatch(5, 9));
            c.due("the same again", 9, () -> x.hatch(5, 0));
        });
        s.holds("Throws `IndexOutOfBoundsException` if b is out of range", c -> {
            BandEngraver x = new BandEngraver();
            for (int bad : new int[] {-1, 6, Integer.MIN_VALUE, Integer.MAX_VALUE}) {
                c.noSuch("hatch(" + bad + ", 0)", () -> x.hatch(bad, 0));
                c.noSuch("hatch(" + bad + ", 10)", () -> x.hatch(bad, 10));
            }
        });
        s.holds("Throws `IllegalArgumentException` if v is out of range", c -> {
            BandEngraver x = new BandEngraver();
            for (int bad : new int[] {-1, 10, Integer.MIN_VALUE, Integer.MAX_VALUE}) {
                c.outOfRange("hatch(5, " + bad + ")", () -> x.hatch(5, bad));
            }
            c.due("the hatching then", 5, () -> x.hatch(5, 5));
        });
    }

    private void line() {
        s.holds("`v`: 0 to 9", c -> {
            BandEngraver x = new BandEngraver();
            for (int k = 0; k <= 9; k++) {
                int v = k;
                c.due("line(" + k + ")", k == 0 ? 1 : k - 1, () -> x.line(v));
                c.due("the line", k, () -> x.about(9));
            }
        });
        s.holds("Changes the line.", c -> {
            BandEngraver x = Pictures.row(0, 99);
            x.line(9);
            c.due("ink with thick lines", 10, () -> x.ink());
            x.line(0);
            c.due("ink without lines", 1, () -> x.ink());
        });
        s.holds("Returns the previous one.", c -> {
            BandEngraver x = new BandEngraver();
            c.due("at first", 1, () -> x.line(9));
            c.due("then", 9, () -> x.line(9));
            c.due("the same again", 9, () -> x.line(0));
        });
        s.holds("Throws `IllegalArgumentException` if v is out of range", c -> {
            BandEngraver x = new BandEngraver();
            for (int bad : new int[] {-1, 10, Integer.MIN_VALUE, Integer.MAX_VALUE}) {
                c.outOfRange("line(" + bad + ")", () -> x.line(bad));
            }
            c.due("the line then", 1, () -> x.about(9));
        });
    }

    // ---- 23 to 26: what becomes of the greys

    private static void greysBehind(Checks c, String want, BandEngraver x, long answer, LongSupplier call) {
        c.due("the answer for " + want, answer, call);
        c.same("the greys", want, Pictures.greys(x));
    }

    private void blur() {
        s.holds("each becomes (4 times itself, and those of its neighbours) / (4, and its neighbours, how many), all at once.", c -> {
            BandEngraver one = Pictures.row(77);
            greysBehind(c, "77", one, 0, () -> one.blur());
            BandEngraver two = Pictures.row(10, 99);
            greysBehind(c, "27 81", two, 2, () -> two.blur());
            // 360 / 8 in the middle, 90 / 7 beside it, nothing across.
            BandEngraver dot = new BandEngraver();
            dot.plate(3, 3);
            dot.cell(1, 1, 90);
            greysBehind(c, "0 12 0/12 45 12/0 12 0", dot, 5, () -> dot.blur());
            // 396 / 6 in the corner, 99 / 7 beside it and 99 / 6 below it.
            BandEngraver corner = new BandEngraver();
            corner.plate(3, 2);
            corner.cell(2, 0, 99);
            greysBehind(c, "0 14 66/0 0 16", corner, 3, () -> corner.blur());
            // 99 / 5 and 99 / 6: what is blurred first is not blurred into the next one.
            BandEngraver row = Pictures.row(99, 0, 0, 0);
            greysBehind(c, "79 16 0 0", row, 2, () -> row.blur());
        });
        s.holds("Returns how many cells have another grey then.", c -> {
            BandEngraver x = new BandEngraver();
            c.due("of black", 0, () -> x.blur());
            x.box(0, 7, 0, 7, 99);
            c.due("of white", 0, () -> x.blur());
            x.cell(3, 3, 98);
            // 791 / 8 beside it; itself it becomes 788 / 8, which it was.
            c.due("of a spot", 4, () -> x.blur());
        });
    }

    private void invert() {
        s.holds("Turns the greys over: each becomes 99 less itself.", c -> {
            BandEngraver x = Pictures.row(0, 99, 49, 50, 1);
            greysBehind(c, "99 0 50 49 98", x, 296, () -> x.invert());
            greysBehind(c, "0 99 49 50 1", x, 199, () -> x.invert());
        });
        s.holds("Returns the sum of all greys then.", c -> {
            BandEngraver x = new BandEngraver();
            x.plate(12, 12);
            c.due("white", 14256, () -> x.invert());
            c.due("black", 0, () -> x.invert());
        });
    }

    private static void spreadTo(Checks c, int v, int grey, int want) {
        BandEngraver x = Pictures.row(grey);
        c.due("spread(" + v + ") of " + grey, grey == want ? 0 : 1, () -> x.spread(v));
        c.due("the grey", want, () -> x.cellOf(0, 0, 0));
    }

    private void spread() {
        s.holds("`v`: 1 to 49", c -> {
            for (int k = 1; k <= 49; k++) {
                int v = k;
                BandEngraver x = Pictures.row(k - 1, k, 99 - k, 100 - k);
                x.spread(v);
                c.same("spread(" + k + ")", "0 0 99 99", Pictures.greys(x));
            }
        });
        s.holds("each one becomes (it less v) * 99 / (99 less 2 * v), if it is from v to 99 less v", c -> {
            spreadTo(c, 25, 25, 0);
            spreadTo(c, 25, 26, 2);
            spreadTo(c, 25, 50, 50);
            spreadTo(c, 25, 73, 96);
            spreadTo(c, 25, 74, 99);
            spreadTo(c, 49, 49, 0);
            spreadTo(c, 49, 50, 99);
            spreadTo(c, 1, 1, 0);
            spreadTo(c, 1, 97, 97);
            spreadTo(c, 1, 98, 99);
        });
        s.holds("0 if it is less", c -> {
            spreadTo(c, 25, 24, 0);
            spreadTo(c, 25, 0, 0);
            spreadTo(c, 49, 48, 0);
            spreadTo(c, 1, 0, 0);
        });
        s.holds("99 if it is more.", c -> {
            spreadTo(c, 25, 75, 99);
            spreadTo(c, 25, 99, 99);
            spreadTo(c, 49, 51, 99);
            spreadTo(c, 1, 99, 99);
        });
        s.holds("Returns how many cells have another grey then.", c -> {
            c.due("none", 0, () -> Pictures.row(0, 99, 0).spread(49));
            c.due("all", 3, () -> Pictures.row(1, 98, 50).spread(49));
            c.due("two of four", 2, () -> Pictures.row(0, 99, 10, 80).spread(20));
        });
        s.holds("Throws `IllegalArgumentException` if v is out of range", c -> {
            BandEngraver x = Pictures.row(7, 50);
            for (int bad : new int[] {0, 50, -1, Integer.MIN_VALUE, Integer.MAX_VALUE}) {
                c.outOfRange("spread(" + bad + ")", () -> x.spread(bad));
            }
            c.same("the greys then", "7 50", Pictures.greys(x));
        });
    }

    private static void noisy(Checks c, String want, int changed, long seed, int v, int... greys) {
        BandEngraver x = Pictures.row(greys);
        greysBehind(c, want, x, changed, () -> x.noise(seed, v));
    }

    /** What is due here was found out by a program of another language. */
    private void noise() {
        s.holds("`seed`: any long", c -> {
            noisy(c, "18 84 23 92 92 74", 6, 0, 50, 50, 50, 50, 50, 50, 50);
            noisy(c, "10 23 40 47 54 17", 6, 1, 50, 50, 50, 50, 50, 50, 50);
            noisy(c, "60 78 5 36 63 30", 6, -1, 50, 50, 50, 50, 50, 50, 50);
            noisy(c, "84 15 46 35 41 56", 6, 123456789, 50, 50, 50, 50, 50, 50, 50);
        });
        s.holds("`v`: 1 to 50", c -> {
            noisy(c, "51 49 50 50 51 51", 4, 0, 1, 50, 50, 50, 50, 50, 50);
            noisy(c, "42 55 53 56 60 54", 6, 0, 10, 50, 50, 50, 50, 50, 50);
            noisy(c, "18 84 23 92 92 74", 6, 0, 50, 50, 50, 50, 50, 50, 50);
        });
        s.holds("a long x starts as the seed", c -> {
            for (int k = 0; k <= 100; k++) {
                int due = Math.min(99, k);
                noisy(c, Integer.toString(due), due == 50 ? 0 : 1, Seeds.forNumber(k), 50, 50);
            }
        });
        s.holds("for each cell, by its number", c -> {
            BandEngraver x = new BandEngraver();
            x.plate(2, 3);
            x.box(0, 1, 0, 2, 50);
            greysBehind(c, "18 84/23 92/92 74", x, 6, () -> x.noise(0, 50));
            // The next noise begins with its seed anew.
            x.box(0, 1, 0, 2, 50);
            greysBehind(c, "18 84/23 92/92 74", x, 6, () -> x.noise(0, 50));
        });
        s.holds("which is held within 0 to 99.", c -> {
            // Less 32, 34 more, less 27, 42 more, 42 more, 24 more.
            noisy(c, "0 99 0 99 99 99", 6, 0, 50, 31, 66, 26, 58, 57, 76);
            noisy(c, "0 98 0 98 99 98", 6, 0, 50, 32, 64, 27, 56, 57, 74);
            noisy(c, "1 99 0 42 99 99", 3, 0, 50, 33, 99, 0, 0, 99, 76);
        });
        s.holds("Returns how many cells have another grey then.", c -> {
            noisy(c, "0 99 0", 0, 0, 50, 0, 99, 0);
            noisy(c, "99 49 0", 1, 0, 1, 99, 50, 0);
            noisy(c, "51 49 50 50", 2, 0, 1, 50, 50, 50, 50);
        });
        s.holds("Throws `IllegalArgumentException` if v is out of range", c -> {
            BandEngraver x = Pictures.row(7, 50);
            for (int bad : new int[] {0, 51, -1, Integer.MIN_VALUE, Integer.MAX_VALUE}) {
                c.outOfRange("noise(0, " + bad + ")", () -> x.noise(0, bad));
            }
            c.same("the greys then", "7 50", Pictures.greys(x));
        });
    }

    private void noiseOverflows() {
        s.holds("x is replaced by x * 6364136223846793005L + 1442695040888963407L (with long overflow), and (int) (x >>> 33) modulo (2 * v and 1, together), less v, is added to its grey", c -> {
            noisy(c, "43 61 89 53 46 13", 6, Long.MAX_VALUE, 50, 50, 50, 50, 50, 50, 50);
            noisy(c, "35 0 6 8 8 57", 6, Long.MIN_VALUE, 50, 50, 50, 50, 50, 50, 50);
            noisy(c, "58 56 49 43 48 59", 6, Long.MAX_VALUE, 10, 50, 50, 50, 50, 50, 50);
            noisy(c, "43 56 52 57 40 53", 6, Long.MIN_VALUE, 10, 50, 50, 50, 50, 50, 50);
            noisy(c, "49 50 49 51 49 50", 4, Long.MIN_VALUE, 1, 50, 50, 50, 50, 50, 50);
            // The highest number that there is leaves 33 of 101.
            noisy(c, "33", 1, Seeds.forNumber(Integer.MAX_VALUE), 50, 50);
            noisy(c, "0", 1, Seeds.forNumber(0), 50, 50);
            noisy(c, "99", 1, Seeds.forNumber(100), 50, 49);
            noisy(c, "49", 1, Seeds.forNumber(101), 50, 99);
        });
    }

    // ---- 27: undo

    private void undo() {
        s.holds("Takes back the last action that is remembered.", c -> {
            undone(c, "plate", x -> x.plate(4, 7));
            undone(c, "cell", x -> x.cell(1, 1, 33));
            undone(c, "box", x -> x.box(0, 5, 0, 2, 90));
            undone(c, "threshold in", x -> x.threshold(45, true));
            undone(c, "threshold out", x -> x.threshold(50, false));
            undone(c, "share", x -> x.share(2));
            undone(c, "least", x -> x.least(9));
            undone(c, "hatch", x -> x.hatch(0, 7));
            undone(c, "line", x -> x.line(5));
            undone(c, "blur", x -> x.blur());
            undone(c, "invert", x -> x.invert());
            undone(c, "spread", x -> x.spread(20));
            undone(c, "noise", x -> x.noise(4, 50));
            // The last cell of the largest plate comes back too.
            BandEngraver x = new BandEngraver();
            x.plate(12, 12);
            x.invert();
            x.plate(1, 1);
            c.due("undo of the smallest plate", 2, () -> x.undo());
            c.due("the last grey", 99, () -> x.cellOf(11, 11, 0));
            c.due("the sum", 14256, () -> x.about(10));
        });
        s.holds("Returns how many states are still remembered.", c -> {
            BandEngraver x = afterActions(2);
            c.due("one of two", 1, () -> x.undo());
            c.due("the last one", 0, () -> x.undo());
            c.due("one of fourteen", 13, () -> afterActions(14).undo());
        });
        s.holds("Throws `IllegalStateException` if none is remembered", c -> {
            BandEngraver x = new BandEngraver();
            c.wrongState("a new object", () -> x.undo());
            x.line(3);
            x.undo();
            c.wrongState("all taken back", () -> x.undo());
            c.due("the line then", 1, () -> x.about(9));
            x.line(4);
            c.due("undo goes again", 0, () -> x.undo());
        });
    }

    private static void undone(Checks c, String name, Call call) {
        BandEngraver x = new BandEngraver();
        Pictures.write(x, "E0704b0205010260p000070b0303000155t20t80m02");
        x.load();
        x.hatch(5, 9);
        String before = Pictures.all(x);
        call.of(x);
        c.yes(name + " makes a difference", !before.equals(Pictures.all(x)));
        c.due("undo of " + name, 1, () -> x.undo());
        c.same("what is behind undo of " + name, before, Pictures.all(x));
        c.due("the first undo", 0, () -> x.undo());
        c.due("the hatching", 5, () -> x.hatch(5, 0));
    }
}
