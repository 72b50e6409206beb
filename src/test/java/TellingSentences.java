/** The sentences of what is told: promises 1 and 6 to 14. */
final class TellingSentences {
    private static final int LOWEST = Integer.MIN_VALUE;
    private static final int HIGHEST = Integer.MAX_VALUE;

    private final Sentences s;

    TellingSentences(Sentences sentences) {
        s = sentences;
    }

    void show() {
        s.of("Promise 1");
        newObject();
        s.of("Promise 6");
        about();
        aboutIslands();
        aboutSidesAndHoles();
        s.of("Promise 7");
        cellOf();
        cellOfIslands();
        distances();
        cellOfRefuses();
        s.of("Promise 8");
        thresholdAt();
        s.of("Promise 9");
        island();
        islandSides();
        islandHoles();
        islandRefuses();
        s.of("Promise 10");
        border();
        s.of("Promise 11");
        outline();
        s.of("Promise 12");
        outlineWay();
        s.of("Promise 13");
        band();
        bandRefuses();
        s.of("Promise 14");
        ink();
    }

    /** A ring in a plate, with a cell in the ring. */
    private static BandEngraver ring() {
        return Pictures.plate("00000", "01110", "01210", "01110", "00000");
    }

    /** A plate of 12 columns and rows in which every ring is of another band than the next one. */
    private static BandEngraver rings() {
        BandEngraver x = new BandEngraver();
        x.plate(12, 12);
        for (int k = 1; k < 6; k++) {
            x.box(k, 11 - k, k, 11 - k, k % 2 * 99);
        }
        return x;
    }

    private void newObject() {
        s.holds("Creates a plate of 8 columns and 8 rows.", c -> {
            BandEngraver x = new BandEngraver();
            int[] due = {8, 8, 1, 1, 1, 1, 0, 0, 0, 1, 0};
            for (int what = 0; what <= 10; what++) {
                int w = what;
                c.due("about(" + w + ")", due[w], () -> x.about(w));
            }
            int[] island = {0, 64, 0, 0, 32, 0, 0, -1, 0};
            for (int what = 0; what <= 8; what++) {
                int w = what;
                c.due("island(0, " + w + ")", island[w], () -> x.island(0, w));
                c.due("island(0, " + w + "), asked first", island[w], () -> new BandEngraver().island(0, w));
            }
            c.due("the text", 0, () -> x.clearText());
            c.wrongState("undo", () -> x.undo());
            c.wrongState("restore(0)", () -> x.restore(0));
            c.wrongState("restore(1)", () -> x.restore(1));
        });
    }

    // ---- 6: about

    private void about() {
        s.holds("Returns a number.", c -> c.due("the rows", 8, () -> new BandEngraver().about(1)));
        s.holds("0: the columns; 1: the rows", c -> {
            BandEngraver x = new BandEngraver();
            x.plate(1, 12);
            c.due("the columns", 1, () -> x.about(0));
            c.due("the rows", 12, () -> x.about(1));
        });
        s.holds("2: the thresholds, how many; 3: the least size", c -> {
            BandEngraver x = new BandEngraver();
            x.share(0);
            x.least(30);
            c.due("no thresholds", 0, () -> x.about(2));
            c.due("the least size", 30, () -> x.about(3));
            BandEngraver y = Pictures.plate("0");
            c.due("all thresholds", 5, () -> y.about(2));
        });
        s.holds("9: the line; 10: the sum of all greys", c -> {
            BandEngraver x = new BandEngraver();
            x.plate(12, 12);
            x.line(0);
            c.due("the line", 0, () -> x.about(9));
            c.due("the sum of black", 0, () -> x.about(10));
            x.box(0, 11, 0, 11, 99);
            c.due("the sum of white", 14256, () -> x.about(10));
            x.plate(1, 1);
            x.cell(0, 0, 7);
            c.due("the sum of one cell", 7, () -> x.about(10));
        });
        s.holds("Returns that number.", c -> {
            BandEngraver x = ring();
            x.line(7);
            x.least(2);
            int[] due = {5, 5, 5, 2, 2, 3, 1, 12, 1, 7, 100};
            for (int what = 0; what <= 10; what++) {
                int w = what;
                c.due("about(" + w + ")", due[w], () -> x.about(w));
            }
        });
        s.holds("Throws `IllegalArgumentException` if what is not 0 to 10", c -> {
            BandEngraver x = new BandEngraver();
            for (int bad : new int[] {-1, 11, LOWEST, HIGHEST}) {
                c.outOfRange("about(" + bad + ")", () -> x.about(bad));
            }
        });
    }

    private void aboutIslands() {
        s.holds("4: the islands; 5: the islands if the least size was 1", c -> {
            BandEngraver x = Pictures.chequered(12, 12);
            c.due("as many as can be", 144, () -> x.about(4));
            x.least(30);
            c.due("merged", 1, () -> x.about(4));
            c.due("merged, but for the least size 1", 144, () -> x.about(5));
            c.due("still merged", 1, () -> x.about(4));
            x.share(0);
            c.due("of one band", 1, () -> x.about(5));
        });
        s.holds("6: the cells whose band is another one than that of their grey", c -> {
            BandEngraver x = Pictures.chequered(12, 12);
            c.due("of the least size 1", 0, () -> x.about(6));
            x.least(30);
            c.due("every other one", 72, () -> x.about(6));
            x.least(1);
            c.due("of the least size 1 again", 0, () -> x.about(6));
        });
    }

    private void aboutSidesAndHoles() {
        s.holds("7: the sides between two islands", c -> {
            c.due("none", 0, () -> new BandEngraver().about(7));
            c.due("all", 264, () -> Pictures.chequered(12, 12).about(7));
            c.due("of a column", 11, () -> Pictures.chequered(1, 12).about(7));
            c.due("of a row", 11, () -> Pictures.chequered(12, 1).about(7));
            c.due("of one cell", 0, () -> Pictures.chequered(1, 1).about(7));
        });
        s.holds("8: the holes of all islands", c -> {
            c.due("none", 0, () -> new BandEngraver().about(8));
            BandEngraver x = new BandEngraver();
            x.plate(12, 12);
            for (int k = 0; k < 25; k++) {
                x.cell(1 + k % 5 * 2, 1 + k / 5 * 2, 99);
            }
            c.due("25 of one island", 25, () -> x.about(8));
            c.due("one of each of five", 5, () -> rings().about(8));
            c.due("none where all meet across", 0, () -> Pictures.chequered(12, 12).about(8));
        });
    }

    // ---- 7: cellOf

    private void cellOf() {
        s.holds("Returns a number of a cell.", c -> c.due("the last one's sides", 2, () -> Pictures.chequered(2, 2).cellOf(1, 1, 4)));
        s.holds("`x`: column", c -> {
            BandEngraver x = Pictures.plate("012", "345");
            c.due("the first column", 30, () -> x.cellOf(0, 1, 0));
            c.due("the last column", 50, () -> x.cellOf(2, 1, 0));
        });
        s.holds("`y`: row", c -> {
            BandEngraver x = Pictures.plate("012", "345");
            c.due("the first row", 10, () -> x.cellOf(1, 0, 0));
            c.due("the last row", 40, () -> x.cellOf(1, 1, 0));
        });
        s.holds("0: its grey; 1: the band of its grey; 2: its band; 3: its island", c -> {
            BandEngraver x = ring();
            x.cell(2, 2, 25);
            x.least(2);
            int[] due = {25, 2, 1, 1, 0, 5};
            for (int what = 0; what <= 5; what++) {
                int w = what;
                c.due("cellOf(2, 2, " + w + ")", due[w], () -> x.cellOf(2, 2, w));
            }
            BandEngraver y = Pictures.plate("012345");
            for (int k = 0; k <= 5; k++) {
                int b = k;
                c.due("the band", b, () -> y.cellOf(b, 0, 1));
                c.due("the island", b, () -> y.cellOf(b, 0, 3));
            }
        });
        s.holds("Returns that number.", c -> {
            BandEngraver x = Pictures.chequered(12, 12);
            int[] due = {0, 0, 0, 143, 2, 50};
            for (int what = 0; what <= 5; what++) {
                int w = what;
                c.due("cellOf(11, 11, " + w + ")", due[w], () -> x.cellOf(11, 11, w));
            }
        });
    }

    private void cellOfIslands() {
        s.holds("4: its sides that are between two islands", c -> {
            BandEngraver x = Pictures.chequered(3, 3);
            c.due("in the middle", 4, () -> x.cellOf(1, 1, 4));
            c.due("at an edge", 3, () -> x.cellOf(1, 0, 4));
            c.due("at the corners", 8, () -> x.cellOf(0, 0, 4) + x.cellOf(2, 0, 4) + x.cellOf(0, 2, 4) + x.cellOf(2, 2, 4));
            c.due("of the only cell", 0, () -> Pictures.chequered(1, 1).cellOf(0, 0, 4));
            x.share(0);
            c.due("in an island", 0, () -> x.cellOf(1, 1, 4));
        });
    }

    private static void stepsAre(Checks c, int... thresholds) {
        BandEngraver x = new BandEngraver();
        x.share(0);
        for (int v : thresholds) {
            x.threshold(v, true);
        }
        for (int grey = 0; grey <= 99; grey++) {
            int fewest = 100;
            for (int other = 0; other <= 99; other++) {
                boolean apart = false;
                for (int v : thresholds) {
                    apart |= (grey >= v) != (other >= v);
                }
                fewest = apart ? Math.min(fewest, Math.abs(grey - other)) : fewest;
            }
            int due = fewest;
            x.cell(0, 0, grey);
            c.due("the steps of " + grey, due, () -> x.cellOf(0, 0, 5));
        }
    }

    private void distances() {
        s.holds("5: by how much its grey would have to become less or more, whichever is less, to have another band of grey", c -> {
            stepsAre(c, 50);
            stepsAre(c, 1);
            stepsAre(c, 99);
            stepsAre(c, 1, 99);
            stepsAre(c, 20, 21, 60, 61, 98);
        });
        s.holds("NONE if there are no thresholds", c -> {
            BandEngraver x = new BandEngraver();
            x.share(0);
            c.due("of the lowest grey", -1, () -> x.cellOf(0, 0, 5));
            x.cell(7, 7, 99);
            c.due("of the highest grey", -1, () -> x.cellOf(7, 7, 5));
            x.threshold(99, true);
            c.due("with a threshold", 1, () -> x.cellOf(7, 7, 5));
        });
    }

    private void cellOfRefuses() {
        s.holds("Throws `IndexOutOfBoundsException` if there is no such column or row", c -> {
            BandEngraver x = new BandEngraver();
            x.plate(3, 2);
            for (int bad : new int[] {-1, 3, 11, 12, LOWEST, HIGHEST}) {
                c.noSuch("the column " + bad, () -> x.cellOf(bad, 0, 0));
                c.noSuch("the row " + bad, () -> x.cellOf(0, bad, 0));
                c.noSuch("with a bad what", () -> x.cellOf(bad, 0, 6));
            }
            c.noSuch("the row 2", () -> x.cellOf(2, 2, 0));
        });
        s.holds("Throws `IllegalArgumentException` if what is not 0 to 5", c -> {
            BandEngraver x = new BandEngraver();
            for (int bad : new int[] {-1, 6, LOWEST, HIGHEST}) {
                c.outOfRange("cellOf(0, 0, " + bad + ")", () -> x.cellOf(0, 0, bad));
            }
        });
    }

    // ---- 8: thresholdAt

    private void thresholdAt() {
        s.holds("Returns a threshold.", c -> c.due("of a new object", 50, () -> new BandEngraver().thresholdAt(0)));
        s.holds("`k`: its place, from 0", c -> {
            BandEngraver x = Pictures.plate("0");
            for (int k = 0; k <= 4; k++) {
                int place = k;
                c.due("thresholdAt(" + k + ")", 10 * k + 10, () -> x.thresholdAt(place));
            }
        });
        s.holds("Returns it.", c -> {
            BandEngraver x = new BandEngraver();
            x.threshold(99, true);
            x.threshold(1, true);
            c.due("the lowest that can be", 1, () -> x.thresholdAt(0));
            c.due("the highest that can be", 99, () -> x.thresholdAt(2));
        });
        s.holds("Throws `IndexOutOfBoundsException` if there is no such threshold", c -> {
            BandEngraver x = new BandEngraver();
            for (int bad : new int[] {-1, 1, 4, 5, LOWEST, HIGHEST}) {
                c.noSuch("thresholdAt(" + bad + ")", () -> x.thresholdAt(bad));
            }
            x.threshold(50, false);
            c.noSuch("thresholdAt(0) without any", () -> x.thresholdAt(0));
            c.noSuch("thresholdAt(5) of five", () -> Pictures.plate("0").thresholdAt(5));
        });
    }

    // ---- 9: island

    private void island() {
        s.holds("0: its first cell; 1: its cells, how many; 2: its band", c -> {
            BandEngraver x = Pictures.chequered(12, 12);
            c.due("the last one's first cell", 143, () -> x.island(143, 0));
            c.due("its cells", 1, () -> x.island(143, 1));
            c.due("its band", 0, () -> x.island(143, 2));
            c.due("the band of the one before it", 1, () -> x.island(142, 2));
            x.share(0);
            c.due("the only one's first cell", 0, () -> x.island(0, 0));
            c.due("all cells", 144, () -> x.island(0, 1));
            BandEngraver y = Pictures.plate("543210");
            for (int k = 0; k <= 5; k++) {
                int i = k;
                c.due("the band of " + i, 5 - i, () -> y.island(i, 2));
            }
        });
        s.holds("5: the islands with which it has a border", c -> {
            c.due("of the only one", 0, () -> new BandEngraver().island(0, 5));
            c.due("of one among four", 4, () -> Pictures.chequered(3, 3).island(4, 5));
            // Several sides with one island count once, and cells across not at all.
            BandEngraver x = Pictures.plate("00000", "01110", "02220", "00000");
            c.due("of the outermost", 2, () -> x.island(0, 5));
            c.due("of the inner one", 2, () -> x.island(1, 5));
            c.due("of one at the corner", 2, () -> Pictures.chequered(3, 3).island(0, 5));
            BandEngraver y = Pictures.chequered(12, 12);
            for (int k = 0; k < 144; k++) {
                int i = k;
                int edges = (k % 12 % 11 == 0 ? 1 : 0) + (k / 12 % 11 == 0 ? 1 : 0);
                c.due("of the island " + i, 4 - edges, () -> y.island(i, 5));
                c.due("its sides", 4 - edges, () -> y.island(i, 3));
                c.due("its sides at the edge", edges, () -> y.island(i, 4));
            }
        });
        s.holds("Returns that number.", c -> {
            BandEngraver x = ring();
            int[][] due = {{0, 16, 0, 12, 20, 1, 1, -1, 2}, {6, 8, 1, 16, 0, 2, 1, 0, 1}, {12, 1, 2, 4, 0, 1, 0, 1, 0}};
            for (int k = 0; k < 27; k++) {
                int i = k / 9;
                int w = k % 9;
                c.due("island(" + i + ", " + w + ")", due[i][w], () -> x.island(i, w));
            }
        });
    }

    private void islandSides() {
        s.holds("3: the sides that its cells have with cells of other islands", c -> {
            c.due("of the only one", 0, () -> new BandEngraver().island(0, 3));
            c.due("of a row in the middle", 24, () -> {
                BandEngraver x = new BandEngraver();
                x.plate(12, 12);
                x.box(0, 11, 5, 5, 99);
                return x.island(1, 3);
            });
            c.due("of one cell", 4, () -> Pictures.chequered(3, 3).island(4, 3));
        });
        s.holds("4: its sides at the edge of the plate", c -> {
            c.due("of one cell alone", 4, () -> Pictures.chequered(1, 1).island(0, 4));
            c.due("of the whole plate", 48, () -> {
                BandEngraver x = new BandEngraver();
                x.plate(12, 12);
                return x.island(0, 4);
            });
            BandEngraver y = Pictures.chequered(3, 3);
            c.due("of a corner", 2, () -> y.island(8, 4));
            c.due("of an edge", 1, () -> y.island(7, 4));
            c.due("of the middle", 0, () -> y.island(4, 4));
            BandEngraver z = Pictures.chequered(1, 3);
            c.due("of the end of a column", 3, () -> z.island(2, 4));
            c.due("of the middle of a column", 2, () -> z.island(1, 4));
        });
    }

    private void islandHoles() {
        s.holds("6: its holes; 7: its mother, NONE if it lies in none; 8: how many islands lie in it", c -> {
            BandEngraver x = rings();
            for (int k = 0; k < 6; k++) {
                int i = k;
                c.due("the holes of the ring " + i, i < 5 ? 1 : 0, () -> x.island(i, 6));
                c.due("the mother of the ring " + i, i - 1, () -> x.island(i, 7));
                c.due("what lies in the ring " + i, 5 - i, () -> x.island(i, 8));
            }
            c.due("the mother of the only one", BandEngraver.NONE, () -> new BandEngraver().island(0, 7));
            // Each of 25 holes has one island.
            BandEngraver y = new BandEngraver();
            y.plate(12, 12);
            for (int k = 0; k < 25; k++) {
                y.cell(1 + k % 5 * 2, 1 + k / 5 * 2, 99);
            }
            c.due("its holes", 25, () -> y.island(0, 6));
            c.due("what lies in it", 25, () -> y.island(0, 8));
            c.due("the mother of the last one", 0, () -> y.island(25, 7));
        });
    }

    private void islandRefuses() {
        s.holds("Throws `IndexOutOfBoundsException` if there is no such island", c -> {
            BandEngraver x = ring();
            for (int bad : new int[] {-1, 3, 143, 144, LOWEST, HIGHEST}) {
                c.noSuch("island(" + bad + ", 0)", () -> x.island(bad, 0));
                c.noSuch("island(" + bad + ", 7)", () -> x.island(bad, 7));
                c.noSuch("island(" + bad + ", 9)", () -> x.island(bad, 9));
            }
            x.least(2);
            c.noSuch("one that is merged", () -> x.island(2, 0));
            c.noSuch("island(144, 0) of 144", () -> Pictures.chequered(12, 12).island(144, 0));
        });
        s.holds("Throws `IllegalArgumentException` if what is not 0 to 8", c -> {
            BandEngraver x = ring();
            for (int bad : new int[] {-1, 9, LOWEST, HIGHEST}) {
                c.outOfRange("island(2, " + bad + ")", () -> x.island(2, bad));
            }
        });
        s.holds("`i`: island", c -> {
            BandEngraver x = ring();
            c.due("the first one", 0, () -> x.island(0, 0));
            c.due("the last one", 12, () -> x.island(2, 0));
        });
        s.holds("Returns a number of an island.", c -> c.due("of the last one", 1, () -> ring().island(2, 1)));
    }

    // ---- 10: border

    private void border() {
        s.holds("Returns the border of two islands.", c -> {
            BandEngraver x = ring();
            c.due("border(0, 1)", 12, () -> x.border(0, 1));
            c.due("border(1, 0)", 12, () -> x.border(1, 0));
            c.due("border(1, 2)", 4, () -> x.border(1, 2));
        });
        s.holds("`i`: island", c -> c.due("the first one", 4, () -> ring().border(2, 1)));
        s.holds("`j`: island", c -> c.due("the last one", 4, () -> ring().border(1, 2)));
        s.holds("Returns how many sides they have in common, 0 for one and the same.", c -> {
            BandEngraver x = Pictures.chequered(12, 12);
            for (int k = 0; k < 144; k++) {
                int i = k;
                c.due("border(" + i + ", " + i + ")", 0, () -> x.border(i, i));
            }
            c.due("the last two", 1, () -> x.border(142, 143));
            c.due("across", 0, () -> x.border(0, 13));
            c.due("the end of a row and the next one", 0, () -> x.border(11, 12));
            c.due("one and the same, of many cells", 0, () -> new BandEngraver().border(0, 0));
            c.due("two that do not meet", 0, () -> ring().border(0, 2));
        });
        s.holds("Throws `IndexOutOfBoundsException` if there is no such island", c -> {
            BandEngraver x = ring();
            for (int bad : new int[] {-1, 3, 144, LOWEST, HIGHEST}) {
                c.noSuch("border(" + bad + ", 0)", () -> x.border(bad, 0));
                c.noSuch("border(0, " + bad + ")", () -> x.border(0, bad));
                c.noSuch("border(" + bad + ", " + bad + ")", () -> x.border(bad, bad));
            }
        });
    }

    // ---- 11, 12: outline, outlineWay

    private static void turns(Checks c, int sides, int right, int left, BandEngraver x, int i) {
        c.due("the sides", sides, () -> x.outline(i, 0));
        c.due("the turns to the right", right, () -> x.outline(i, 1));
        c.due("the turns to the left", left, () -> x.outline(i, 2));
    }

    private void outline() {
        s.holds("Returns a number of the outline of an island.", c -> turns(c, 12, 4, 0, ring(), 1));
        s.holds("`i`: island", c -> turns(c, 4, 4, 0, ring(), 2));
        s.holds("0: its sides; 1: how often it turns right; 2: how often it turns left", c -> {
            // A comb of six teeth, eleven cells long, at a back of twelve: as long as 2 * 78 + 2.
            BandEngraver x = new BandEngraver();
            x.plate(12, 12);
            x.box(0, 11, 0, 0, 90);
            for (int column = 0; column < 12; column += 2) {
                x.box(column, column, 1, 11, 90);
            }
            turns(c, 158, 15, 11, x, 0);
            turns(c, 20, 12, 8, Pictures.plate("01010", "11111", "01010"), 1);
        });
        s.holds("(the turn at the end too, so that there are 4 more to the right)", c -> {
            turns(c, 4, 4, 0, Pictures.plate("0"), 0);
            turns(c, 48, 4, 0, rings(), 0);
            turns(c, 16, 7, 3, Pictures.plate("111", "101", "110"), 0);
        });
        s.holds("Returns that number.", c -> {
            BandEngraver x = Pictures.plate("10", "11");
            turns(c, 8, 5, 1, x, 0);
            turns(c, 4, 4, 0, x, 1);
            turns(c, 8, 5, 1, x, 0);
        });
        s.holds("Throws `IndexOutOfBoundsException` if there is no such island", c -> {
            BandEngraver x = ring();
            for (int bad : new int[] {-1, 3, 144, LOWEST, HIGHEST}) {
                c.noSuch("outline(" + bad + ", 0)", () -> x.outline(bad, 0));
                c.noSuch("outline(" + bad + ", 3)", () -> x.outline(bad, 3));
            }
        });
        s.holds("Throws `IllegalArgumentException` if what is not 0 to 2", c -> {
            BandEngraver x = ring();
            for (int bad : new int[] {-1, 3, LOWEST, HIGHEST}) {
                c.outOfRange("outline(2, " + bad + ")", () -> x.outline(2, bad));
            }
        });
    }

    private void outlineWay() {
        s.holds("Returns the way of a side of the outline.", c -> c.same("of the ring", "000111222333", Pictures.ways(ring(), 1)));
        s.holds("`i`: island", c -> c.same("of the last one", "0123", Pictures.ways(ring(), 2)));
        s.holds("`k`: which side, from 0", c -> {
            BandEngraver x = Pictures.plate("10", "11");
            String ways = "01012233";
            for (int k = 0; k < 8; k++) {
                int side = k;
                c.due("outlineWay(0, " + k + ")", ways.charAt(k) - '0', () -> x.outlineWay(0, side));
            }
        });
        s.holds("Returns its way.", c -> c.same("of a column", "01112333", Pictures.ways(Pictures.plate("1", "1", "1"), 0)));
        s.holds("Throws `IndexOutOfBoundsException` if there is no such island or side", c -> {
            BandEngraver x = ring();
            for (int bad : new int[] {-1, 12, 144, LOWEST, HIGHEST}) {
                c.noSuch("the island " + bad, () -> x.outlineWay(bad, 0));
                c.noSuch("the side " + bad, () -> x.outlineWay(1, bad));
                c.noSuch("both", () -> x.outlineWay(bad, bad));
            }
            c.noSuch("the island 3", () -> x.outlineWay(3, 0));
            c.noSuch("the fifth side of one cell", () -> x.outlineWay(2, 4));
            c.due("the last side of the ring", 3, () -> x.outlineWay(1, 11));
        });
    }

    // ---- 13, 14: band, ink

    private void band() {
        s.holds("`b`: band, 0 to the thresholds, how many", c -> {
            BandEngraver x = new BandEngraver();
            c.due("the highest of one threshold", 1, () -> x.band(1, 0));
            x.share(0);
            c.due("the only one without thresholds", 64, () -> x.band(0, 1));
            c.due("the highest of five", 5, () -> Pictures.plate("0").band(5, 0));
        });
        s.holds("0: its hatching; 1: its cells; 2: its islands; 3: the ink for its hatching", c -> {
            BandEngraver x = Pictures.plate("0120", "2222");
            x.hatch(0, 9);
            int[][] due = {{9, 2, 2, 18}, {1, 1, 1, 1}, {2, 5, 1, 10}, {3, 0, 0, 0}, {4, 0, 0, 0}, {5, 0, 0, 0}};
            for (int k = 0; k < 24; k++) {
                int b = k / 4;
                int w = k % 4;
                c.due("band(" + b + ", " + w + ")", due[b][w], () -> x.band(b, w));
            }
        });
        s.holds("Returns that number.", c -> {
            BandEngraver x = Pictures.chequered(12, 12);
            x.hatch(1, 9);
            c.due("its cells", 72, () -> x.band(1, 1));
            c.due("its islands", 72, () -> x.band(1, 2));
            c.due("its ink", 648, () -> x.band(1, 3));
        });
        s.holds("Returns a number of a band.", c -> c.due("of a new object", 64, () -> new BandEngraver().band(0, 1)));
    }

    private void bandRefuses() {
        s.holds("Throws `IndexOutOfBoundsException` if there is no such band", c -> {
            BandEngraver x = new BandEngraver();
            for (int bad : new int[] {-1, 2, 5, 6, LOWEST, HIGHEST}) {
                c.noSuch("band(" + bad + ", 0)", () -> x.band(bad, 0));
                c.noSuch("band(" + bad + ", 4)", () -> x.band(bad, 4));
            }
            c.noSuch("band(6, 0) of five thresholds", () -> Pictures.plate("0").band(6, 0));
            x.share(0);
            c.noSuch("band(1, 0) without thresholds", () -> x.band(1, 0));
        });
        s.holds("Throws `IllegalArgumentException` if what is not 0 to 3", c -> {
            BandEngraver x = new BandEngraver();
            for (int bad : new int[] {-1, 4, LOWEST, HIGHEST}) {
                c.outOfRange("band(1, " + bad + ")", () -> x.band(1, bad));
            }
        });
    }

    private void ink() {
        s.holds("Tells how much ink is needed.", c -> c.due("by a new object", 0, () -> new BandEngraver().ink()));
        s.holds("Returns the ink for all hatching and lines.", c -> {
            BandEngraver x = Pictures.chequered(12, 12);
            c.due("at first", 72 + 264, () -> x.ink());
            x.hatch(0, 9);
            x.hatch(1, 9);
            x.line(9);
            c.due("as much as can be", 1296 + 2376, () -> x.ink());
            x.least(30);
            c.due("when all is one", 1296, () -> x.ink());
            x.hatch(0, 0);
            x.hatch(1, 0);
            c.due("when nothing is hatched", 0, () -> x.ink());
        });
    }
}
