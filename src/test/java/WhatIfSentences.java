/** The sentences of what would be, and of the save slots: promises 28 to 31, 34 and 35. */
final class WhatIfSentences {
    private static final int LOWEST = Integer.MIN_VALUE;
    private static final int HIGHEST = Integer.MAX_VALUE;

    private final Sentences s;

    WhatIfSentences(Sentences sentences) {
        s = sentences;
    }

    void show() {
        s.of("Promise 28");
        ifLeast();
        s.of("Promise 29");
        leastFor();
        s.of("Promise 30");
        bestMove();
        bestMoveOfSeveral();
        s.of("Promise 31");
        ifCell();
        ifCellRefuses();
        s.of("Promise 34");
        save();
        s.of("Promise 35");
        restore();
        restoreRefuses();
    }

    /** A plate of many greys, five thresholds and unlike inks. */
    private static BandEngraver noisy(int columns, int rows) {
        BandEngraver x = Pictures.plate("0");
        x.plate(columns, rows);
        x.box(0, columns - 1, 0, rows - 1, 30);
        x.noise(8, 40);
        x.hatch(1, 9);
        x.line(2);
        return x;
    }

    // ---- 28: ifLeast

    private void ifLeast() {
        s.holds("Tells what another least size would bring.", c -> {
            BandEngraver x = Pictures.row(0, 99, 99);
            c.due("islands of 1", 2, () -> x.ifLeast(1, 0));
            c.due("islands of 2", 1, () -> x.ifLeast(2, 0));
            c.due("the least size stays", 1, () -> x.about(3));
            x.least(30);
            c.due("islands of 1 where all is merged", 2, () -> x.ifLeast(1, 0));
        });
        s.holds("`v`: 1 to 30", c -> {
            BandEngraver x = new BandEngraver();
            x.plate(12, 12);
            x.box(0, 5, 0, 4, 99);
            c.due("30 cells, of 1", 2, () -> x.ifLeast(1, 0));
            c.due("30 cells, of 30", 2, () -> x.ifLeast(30, 0));
            x.cell(5, 4, 0);
            c.due("29 cells, of 29", 2, () -> x.ifLeast(29, 0));
            c.due("29 cells, of 30", 1, () -> x.ifLeast(30, 0));
        });
        s.holds("0: the islands; 1: the cells whose band would be another one than that of their grey; 2: ink()", c -> {
            BandEngraver x = Pictures.plate("0120", "2222");
            // 1122 above 2222
            c.due("the islands", 2, () -> x.ifLeast(2, 0));
            c.due("the cells", 2, () -> x.ifLeast(2, 1));
            c.due("the ink", 17, () -> x.ifLeast(2, 2));
        });
        s.holds("Returns that number behind least(v).", c -> {
            BandEngraver x = noisy(12, 12);
            BandEngraver y = noisy(12, 12);
            for (int k = 1; k <= 30; k++) {
                int v = k;
                y.least(v);
                c.due("islands of " + k, y.about(4), () -> x.ifLeast(v, 0));
                c.due("cells of " + k, y.about(6), () -> x.ifLeast(v, 1));
                c.due("ink of " + k, y.ink(), () -> x.ifLeast(v, 2));
            }
        });
        s.holds("Throws `IllegalArgumentException` if v or what is out of range", c -> {
            BandEngraver x = new BandEngraver();
            for (int bad : new int[] {0, 31, -1, LOWEST, HIGHEST}) {
                c.outOfRange("the least size " + bad, () -> x.ifLeast(bad, 0));
            }
            for (int bad : new int[] {-1, 3, LOWEST, HIGHEST}) {
                c.outOfRange("the what " + bad, () -> x.ifLeast(30, bad));
            }
        });
    }

    // ---- 29: leastFor

    private void leastFor() {
        s.holds("`n`: 1 to 144", c -> {
            BandEngraver x = Pictures.chequered(12, 12);
            c.due("144 islands", 1, () -> x.leastFor(144));
            c.due("143 islands", 2, () -> x.leastFor(143));
            c.due("one island", 2, () -> x.leastFor(1));
            c.due("one island, of one", 1, () -> new BandEngraver().leastFor(1));
        });
        s.holds("Returns the lowest least size, 1 to 30, with which there would be at most n islands", c -> {
            BandEngraver x = noisy(12, 12);
            BandEngraver y = noisy(12, 12);
            x.least(11);
            int[] islands = new int[31];
            for (int v = 1; v <= 30; v++) {
                y.least(v);
                islands[v] = y.about(4);
            }
            for (int k = 1; k <= 144; k++) {
                int n = k;
                int due = BandEngraver.NONE;
                for (int v = 30; v >= 1; v--) {
                    due = islands[v] <= n ? v : due;
                }
                c.due("leastFor(" + k + ")", due, () -> x.leastFor(n));
            }
        });
        s.holds("NONE if there is none.", c -> {
            BandEngraver x = new BandEngraver();
            x.plate(12, 12);
            x.box(0, 5, 0, 4, 99);
            c.due("one of two, of 30 cells", BandEngraver.NONE, () -> x.leastFor(1));
            c.due("two of two", 1, () -> x.leastFor(2));
            x.cell(5, 4, 0);
            c.due("one of two, of 29 cells", 30, () -> x.leastFor(1));
        });
        s.holds("Finds a least size that leaves few islands.", c -> {
            BandEngraver x = Pictures.plate("0112223333");
            c.due("four of four", 1, () -> x.leastFor(4));
            c.due("three", 2, () -> x.leastFor(3));
            c.due("two", 4, () -> x.leastFor(2));
            c.due("one", 5, () -> x.leastFor(1));
        });
        s.holds("Throws `IllegalArgumentException` if n is out of range", c -> {
            BandEngraver x = new BandEngraver();
            for (int bad : new int[] {0, 145, -1, LOWEST, HIGHEST}) {
                c.outOfRange("leastFor(" + bad + ")", () -> x.leastFor(bad));
            }
        });
    }

    // ---- 30: bestMove

    private static void moved(Checks c, int want, int k, int[] thresholds, int... greys) {
        BandEngraver x = Pictures.row(greys);
        x.share(0);
        for (int v : thresholds) {
            x.threshold(v, true);
        }
        c.due("bestMove(" + k + ") to " + want, want, () -> x.bestMove(k));
    }

    private static int[] at(int... thresholds) {
        return thresholds;
    }

    private void bestMove() {
        s.holds("Returns of the values from 1 to 99 that no other threshold has", c -> {
            moved(c, 1, 0, at(50), 1, 99, 1);
            moved(c, 99, 0, at(50), 98, 0, 98);
            // 1, 20, 21 and 99 would be best, but others have them.
            moved(c, 50, 1, at(1, 50), 1, 99);
            moved(c, 50, 0, at(50, 99), 98, 0);
            moved(c, 19, 1, at(20, 30), 20, 60, 20);
            moved(c, 18, 2, at(19, 20, 30), 20, 60, 20);
            // Its own value is one of them.
            moved(c, 50, 0, at(50), 0, 0);
        });
        s.holds("the one with which there would be the fewest islands, if it was in its place", c -> {
            moved(c, 61, 0, at(50), 20, 60, 40);
            moved(c, 20, 0, at(50), 20, 90, 40);
            // Of the least size 2 all is one island as it is.
            BandEngraver x = Pictures.row(0, 60, 0, 70, 70, 70);
            c.due("of the least size 1", 71, () -> x.bestMove(0));
            x.least(2);
            c.due("of the least size 2", 50, () -> x.bestMove(0));
            for (int k = 0; k < 40; k++) {
                int side = k < 20 ? 5 : 12;
                BandEngraver y = noisy(side, side);
                y.least(1 + k / 5 % 4);
                int t = k % 5;
                c.due("bestMove(" + t + ") of many greys", tried(y, t), () -> y.bestMove(t));
            }
        });
    }

    /** The best value, found by putting every one in. */
    private static int tried(BandEngraver x, int k) {
        int now = x.thresholdAt(k);
        int best = now;
        int fewest = x.about(4);
        x.threshold(now, false);
        for (int v = 1; v <= 99; v++) {
            int value = v;
            if (Checks.answer(() -> x.threshold(value, true)).startsWith("throws")) {
                continue;
            }
            int islands = x.about(4);
            if (islands < fewest || islands == fewest && Math.abs(v - now) < Math.abs(best - now)) {
                best = v;
                fewest = islands;
            }
            x.threshold(v, false);
        }
        x.threshold(now, true);
        return best;
    }

    private void bestMoveOfSeveral() {
        s.holds("(then put where it belongs)", c -> {
            moved(c, 56, 0, at(50, 55), 0, 60, 0, 54);
            moved(c, 44, 1, at(45, 50), 99, 39, 99, 45);
        });
        s.holds("of several the one nearest to it as it is", c -> {
            moved(c, 61, 0, at(50), 20, 60, 20);
            moved(c, 50, 0, at(50), 0, 99, 0);
            moved(c, 1, 0, at(1), 0, 99);
            moved(c, 99, 0, at(99), 0, 99);
        });
        s.holds("of these the lower one.", c -> {
            moved(c, 20, 0, at(41), 20, 61, 40);
            moved(c, 49, 0, at(50), 49, 50, 49);
        });
        s.holds("`k`: threshold", c -> {
            moved(c, 61, 0, at(50, 99), 20, 60, 20);
            moved(c, 99, 1, at(50, 99), 20, 60, 20);
        });
        s.holds("Finds the threshold that is best moved.", c -> {
            BandEngraver x = Pictures.row(20, 60, 40);
            c.due("bestMove(0)", 61, () -> x.bestMove(0));
            c.same("it is not moved", "50", Pictures.thresholds(x));
            c.due("nor the islands", 3, () -> x.about(4));
        });
        s.holds("Throws `IndexOutOfBoundsException` if there is no such threshold", c -> {
            BandEngraver x = new BandEngraver();
            for (int bad : new int[] {-1, 1, 5, LOWEST, HIGHEST}) {
                c.noSuch("bestMove(" + bad + ")", () -> x.bestMove(bad));
            }
            x.share(0);
            c.noSuch("bestMove(0) without thresholds", () -> x.bestMove(0));
            c.noSuch("bestMove(5) of five", () -> Pictures.plate("0").bestMove(5));
        });
    }

    // ---- 31: ifCell

    private void ifCell() {
        s.holds("`x`: column", c -> c.due("the last column", 1, () -> Pictures.plate("0000", "0000").ifCell(3, 0, 10, 0)));
        s.holds("`y`: row", c -> c.due("the last row", 1, () -> Pictures.plate("0000", "0000").ifCell(0, 1, 10, 0)));
        s.holds("`grey`: 0 to 99", c -> {
            BandEngraver x = new BandEngraver();
            c.due("the grey 0", 64, () -> x.ifCell(7, 7, 0, 0));
            c.due("the grey 49", 64, () -> x.ifCell(7, 7, 49, 0));
            c.due("the grey 50", 1, () -> x.ifCell(7, 7, 50, 0));
            c.due("the grey 99", 1, () -> x.ifCell(7, 7, 99, 0));
        });
        s.holds("0: the cells of its island then; 1: the islands then; 2: how many cells have another band than now then", c -> {
            BandEngraver x = Pictures.plate("0010", "0011");
            int[] due = {4, 2, 1};
            for (int what = 0; what <= 2; what++) {
                int w = what;
                c.due("ifCell(3, 0, 10, " + w + ")", due[w], () -> x.ifCell(3, 0, 10, w));
            }
            x.least(2);
            // The greys 0010/0001 then, of which one after the other goes with the noughts.
            int[] merged = {8, 1, 4};
            for (int what = 0; what <= 2; what++) {
                int w = what;
                c.due("ifCell(2, 1, 0, " + w + ")", merged[w], () -> x.ifCell(2, 1, 0, w));
            }
        });
        s.holds("(itself too, if it has)", c -> {
            BandEngraver x = new BandEngraver();
            c.due("itself alone", 1, () -> x.ifCell(0, 0, 99, 2));
            c.due("itself alone, as one of 144", 1, () -> noisy(12, 12).ifCell(11, 11, 0, 2));
            c.due("not itself", 0, () -> x.ifCell(0, 0, 49, 2));
            // Merged it has the band that it has now.
            x.least(2);
            c.due("not itself, as it is merged", 0, () -> x.ifCell(0, 0, 99, 2));
        });
        s.holds("Returns that number.", c -> {
            BandEngraver x = noisy(4, 4);
            x.least(3);
            BandEngraver y = noisy(4, 4);
            y.least(3);
            for (int k = 0; k < 160; k++) {
                int column = k % 4;
                int row = k / 4 % 4;
                int grey = k / 16 * 11;
                int cells = cellsThen(y, column, row, grey);
                c.due("the cells, " + k, cells / 10000, () -> x.ifCell(column, row, grey, 0));
                c.due("the islands, " + k, cells / 100 % 100, () -> x.ifCell(column, row, grey, 1));
                c.due("the bands, " + k, cells % 100, () -> x.ifCell(column, row, grey, 2));
            }
        });
    }

    /** The cells of the island, the islands, and the cells of another band, two digits each. */
    private static int cellsThen(BandEngraver x, int column, int row, int grey) {
        String before = Pictures.bands(x);
        x.cell(column, row, grey);
        String then = Pictures.bands(x);
        int cells = x.island(x.cellOf(column, row, 3), 1);
        int islands = x.about(4);
        x.undo();
        int other = 0;
        for (int k = 0; k < before.length(); k++) {
            other += before.charAt(k) == then.charAt(k) ? 0 : 1;
        }
        return cells * 10000 + islands * 100 + other;
    }

    private void ifCellRefuses() {
        s.holds("Tells which island a cell would be of if it had another grey.", c -> {
            BandEngraver x = new BandEngraver();
            c.due("another grey", 1, () -> x.ifCell(3, 3, 99, 0));
            c.due("the grey that it has", 64, () -> x.ifCell(3, 3, 0, 0));
            c.due("it stays as it is", 0, () -> x.cellOf(3, 3, 0));
        });
        s.holds("Throws `IndexOutOfBoundsException` if there is no such column or row", c -> {
            BandEngraver x = new BandEngraver();
            x.plate(3, 2);
            for (int bad : new int[] {-1, 3, 12, LOWEST, HIGHEST}) {
                c.noSuch("the column " + bad, () -> x.ifCell(bad, 0, 0, 0));
                c.noSuch("the row " + bad, () -> x.ifCell(0, bad, 0, 0));
                c.noSuch("with a bad grey", () -> x.ifCell(bad, 0, 100, 0));
                c.noSuch("with a bad what", () -> x.ifCell(0, bad, 0, 3));
            }
            c.noSuch("the row 2", () -> x.ifCell(2, 2, 0, 0));
        });
        s.holds("Throws `IllegalArgumentException` if grey or what is out of range", c -> {
            BandEngraver x = new BandEngraver();
            for (int bad : new int[] {-1, 100, LOWEST, HIGHEST}) {
                c.outOfRange("the grey " + bad, () -> x.ifCell(0, 0, bad, 0));
            }
            for (int bad : new int[] {-1, 3, LOWEST, HIGHEST}) {
                c.outOfRange("the what " + bad, () -> x.ifCell(0, 0, 0, bad));
            }
        });
    }

    // ---- 34, 35: save, restore

    private void save() {
        s.holds("`slot`: 0 or 1", c -> {
            BandEngraver x = Pictures.row(7, 8);
            c.due("save(0)", 15, () -> x.save(0));
            x.cell(0, 0, 9);
            c.due("save(1)", 17, () -> x.save(1));
            c.due("restore(0)", 15, () -> x.restore(0));
            c.due("restore(1)", 17, () -> x.restore(1));
        });
        s.holds("Stores the present state in a save slot.", c -> {
            BandEngraver x = noisy(5, 3);
            x.least(2);
            String saved = Pictures.all(x);
            x.save(1);
            c.due("it is no action", 11, () -> x.undo());
            x.save(0);
            x.blur();
            x.plate(2, 2);
            x.restore(1);
            c.same("what is restored", saved, Pictures.all(x));
            // What is saved there before is forgotten.
            x.line(9);
            x.save(1);
            x.line(8);
            x.restore(1);
            c.due("the line saved last", 9, () -> x.about(9));
            x.restore(0);
            c.due("the least size saved in the other one", 1, () -> x.about(3));
        });
        s.holds("Returns the sum of all greys.", c -> {
            BandEngraver x = new BandEngraver();
            c.due("of black", 0, () -> x.save(0));
            x.plate(12, 12);
            x.invert();
            c.due("of white", 14256, () -> x.save(0));
        });
        s.holds("Throws `IndexOutOfBoundsException` if there is no such save slot", c -> {
            BandEngraver x = new BandEngraver();
            for (int bad : new int[] {-1, 2, LOWEST, HIGHEST}) {
                c.noSuch("save(" + bad + ")", () -> x.save(bad));
            }
            c.wrongState("restore(0) then", () -> x.restore(0));
            c.wrongState("restore(1) then", () -> x.restore(1));
        });
    }

    private void restore() {
        s.holds("`slot`: 0 or 1", c -> {
            BandEngraver x = new BandEngraver();
            x.save(0);
            x.save(1);
            c.due("restore(0)", 0, () -> x.restore(0));
            c.due("restore(1)", 0, () -> x.restore(1));
        });
        s.holds("Replaces the state by the one in a save slot, and forgets all remembered states.", c -> {
            BandEngraver x = noisy(5, 3);
            x.least(2);
            String saved = Pictures.all(x);
            x.save(0);
            x.plate(12, 12);
            x.share(1);
            x.least(5);
            x.line(9);
            x.hatch(5, 0);
            x.append('E');
            c.due("save(1)", 0, () -> x.save(1));
            c.due("restore(1)", 0, () -> x.restore(1));
            c.wrongState("undo behind restore(1)", () -> x.undo());
            x.restore(0);
            c.due("the text stays", 1, () -> x.clearText());
            c.same("what is restored", saved, Pictures.all(x));
            c.wrongState("undo behind restore(0)", () -> x.undo());
            x.invert();
            c.due("undo of what came behind it", 0, () -> x.undo());
            c.same("what is behind undo", saved, Pictures.all(x));
        });
        s.holds("The save slot keeps it.", c -> {
            BandEngraver x = Pictures.row(7, 8);
            x.save(0);
            for (int k = 0; k < 3; k++) {
                c.due("restore(0)", 15, () -> x.restore(0));
                x.invert();
                x.least(9);
                x.threshold(50, false);
                x.hatch(0, 9);
            }
            c.due("restore(0)", 15, () -> x.restore(0));
            c.due("the least size", 1, () -> x.about(3));
            c.same("the thresholds", "50", Pictures.thresholds(x));
            c.due("the hatching", 0, () -> x.band(0, 0));
        });
        s.holds("Returns the sum of all greys then.", c -> {
            BandEngraver x = new BandEngraver();
            x.save(1);
            x.plate(12, 12);
            x.invert();
            x.save(0);
            c.due("of black", 0, () -> x.restore(1));
            c.due("of white", 14256, () -> x.restore(0));
            c.due("the last grey", 99, () -> x.cellOf(11, 11, 0));
        });
    }

    private void restoreRefuses() {
        s.holds("Throws `IndexOutOfBoundsException` if there is no such save slot", c -> {
            BandEngraver x = new BandEngraver();
            x.save(0);
            x.save(1);
            x.line(5);
            for (int bad : new int[] {-1, 2, LOWEST, HIGHEST}) {
                c.noSuch("restore(" + bad + ")", () -> x.restore(bad));
            }
            c.due("the line then", 5, () -> x.about(9));
            c.due("undo then", 0, () -> x.undo());
        });
        s.holds("Throws `IllegalStateException` if nothing has been saved in it since the last load", c -> {
            BandEngraver x = new BandEngraver();
            c.wrongState("restore(0) of a new object", () -> x.restore(0));
            c.wrongState("restore(1) of a new object", () -> x.restore(1));
            x.save(0);
            c.wrongState("restore(1), as only 0 is saved", () -> x.restore(1));
            x.save(1);
            Pictures.write(x, "E010");
            c.wrongState("load that is refused", () -> x.load());
            c.due("restore(0) then", 0, () -> x.restore(0));
            x.append('1');
            x.load();
            c.wrongState("restore(0) behind load", () -> x.restore(0));
            c.wrongState("restore(1) behind load", () -> x.restore(1));
            x.line(5);
            c.wrongState("restore(0), still empty", () -> x.restore(0));
            c.due("undo then", 0, () -> x.undo());
            x.save(1);
            c.due("restore(1) of what is saved since", 0, () -> x.restore(1));
            c.due("its columns", 1, () -> x.about(0));
        });
    }
}
