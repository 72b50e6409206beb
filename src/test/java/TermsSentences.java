/** The sentences of "What it is" and "Terms" that name a boundary case. */
final class TermsSentences {
    private final Sentences s;

    TermsSentences(Sentences sentences) {
        s = sentences;
    }

    void show() {
        s.of("What it is");
        life();
        s.of("Terms");
        divisions();
        sizesOfThePlate();
        cellsOfThePlate();
        neighbours();
        thresholds();
        islands();
        merging();
        takers();
        whatIsMerged();
        numbers();
        outlines();
        corners();
        holes();
        mothers();
        ink();
    }

    private void life() {
        s.holds("An object is used for at most 512 calls after it has been made", c -> {
            BandEngraver x = new BandEngraver();
            c.due("call 1", 144, () -> x.plate(12, 12));
            for (int call = 2; call <= 510; call++) {
                int k = (call - 2) % 144;
                int turn = (call - 2) / 144;
                c.due("call " + call, turn == 0 ? 0 : k % 90 + turn, () -> x.cell(k % 12, k / 12, k % 90 + turn + 1));
            }
            int sum = 0;
            for (int k = 0; k < 144; k++) {
                sum += k % 90 + (k < 509 - 3 * 144 ? 4 : 3);
            }
            int due = sum;
            c.due("call 511", due, () -> x.about(10));
            c.due("call 512", 13, () -> x.undo());
        });
    }

    private void divisions() {
        s.holds("All divisions are rounded down.", c -> {
            BandEngraver x = Pictures.row(10, 99);
            c.due("blur", 2, () -> x.blur());
            c.same("139 / 5 and 406 / 5", "27 81", Pictures.greys(x));
            BandEngraver y = Pictures.row(26, 73);
            c.due("spread(25)", 2, () -> y.spread(25));
            c.same("99 / 49 and 4752 / 49", "2 96", Pictures.greys(y));
            BandEngraver z = Pictures.row(10, 20, 30, 40);
            c.due("share(2)", 2, () -> z.share(2));
            c.same("4 / 3 and 8 / 3", "11 21", Pictures.thresholds(z));
        });
    }

    private void sizesOfThePlate() {
        s.holds("The plate has 1 to 12 columns and 1 to 12 rows", c -> {
            for (int k = 0; k < 144; k++) {
                int columns = 1 + k % 12;
                int rows = 1 + k / 12;
                BandEngraver x = new BandEngraver();
                c.due("plate " + columns + " " + rows, columns * rows, () -> x.plate(columns, rows));
                c.due("its columns", columns, () -> x.about(0));
                c.due("its rows", rows, () -> x.about(1));
                c.due("its one island", columns * rows, () -> x.island(0, 1));
                c.due("the last cell", 0, () -> x.cell(columns - 1, rows - 1, 9));
                c.noSuch("a column more", () -> x.cell(columns, rows - 1, 9));
                c.noSuch("a row more", () -> x.cell(columns - 1, rows, 9));
            }
        });
        s.holds("at first 8 of each", c -> {
            BandEngraver x = new BandEngraver();
            c.due("the columns", 8, () -> x.about(0));
            c.due("the rows", 8, () -> x.about(1));
            c.due("the last cell", 0, () -> x.cellOf(7, 7, 0));
            c.noSuch("a ninth column", () -> x.cellOf(8, 0, 0));
            c.noSuch("a ninth row", () -> x.cellOf(0, 8, 0));
        });
    }

    private static void numbered(Checks c, int columns, int rows) {
        BandEngraver x = new BandEngraver();
        x.plate(columns, rows);
        for (int k = 1; k < columns * rows; k++) {
            int cell = k;
            x.cell(k % columns, k / columns, 99);
            c.due("the cell " + k + " of " + columns + " columns", cell, () -> x.island(1, 0));
            x.cell(k % columns, k / columns, 0);
        }
    }

    private void cellsOfThePlate() {
        s.holds("The cell in the column x and the row y, both from 0, has the number y * (the columns) + x", c -> {
            numbered(c, 3, 2);
            numbered(c, 2, 3);
            numbered(c, 12, 1);
            numbered(c, 1, 12);
            numbered(c, 12, 12);
        });
        s.holds("and a grey of 0 to 99, at first 0.", c -> {
            BandEngraver x = new BandEngraver();
            for (int k = 0; k < 64; k++) {
                int cell = k;
                c.due("at first", 0, () -> x.cellOf(cell % 8, cell / 8, 0));
            }
            c.due("the highest", 0, () -> x.cell(3, 3, 99));
            c.due("the highest, told", 99, () -> x.cellOf(3, 3, 0));
            c.due("the lowest", 99, () -> x.cell(3, 3, 0));
            c.due("the lowest, told", 0, () -> x.cellOf(3, 3, 0));
        });
    }

    private void neighbours() {
        s.holds("Neighbours of a cell are those next to it in its row and its column", c -> {
            // The end of a row is not next to the beginning of the next one.
            BandEngraver x = Pictures.plate("0001", "1000");
            c.due("islands", 3, () -> x.about(4));
            c.due("the border of the two dark ones", 0, () -> x.border(1, 2));
            c.due("sides of the first dark one", 2, () -> x.cellOf(3, 0, 4));
            // Neither are the two ends of a row, nor of a column.
            BandEngraver y = Pictures.plate("1001", "0000", "1001");
            c.due("islands", 5, () -> y.about(4));
            // Nor cells across.
            BandEngraver z = Pictures.plate("10", "01");
            c.due("islands", 4, () -> z.about(4));
            c.due("a border across", 0, () -> z.border(0, 3));
            BandEngraver b = Pictures.plate("009", "000");
            b.cell(2, 0, 70);
            c.due("blur", 3, () -> b.blur());
            // 280 / 6, 70 / 7 and 70 / 6.
            c.same("what is blurred", "0 10 46/0 0 11", Pictures.greys(b));
        });
        s.holds("around it are its neighbours and the cells next to it across.", c -> {
            BandEngraver x = Pictures.plate("11111", "10111", "11011", "11101", "11111");
            c.due("one hole of three cells across", 1, () -> x.island(0, 6));
            c.due("islands in it", 3, () -> x.island(0, 8));
        });
    }

    private void thresholds() {
        s.holds("There are 0 to 5 thresholds, each 1 to 99, all unlike, at first just 50", c -> {
            BandEngraver x = new BandEngraver();
            c.same("at first", "50", Pictures.thresholds(x));
            c.wrongState("another 50", () -> x.threshold(50, true));
            c.due("none", 0, () -> x.threshold(50, false));
            c.same("none", "", Pictures.thresholds(x));
            c.due("1", 1, () -> x.threshold(1, true));
            c.due("99", 2, () -> x.threshold(99, true));
            c.due("2", 3, () -> x.threshold(2, true));
            c.due("98", 4, () -> x.threshold(98, true));
            c.due("50 again", 5, () -> x.threshold(50, true));
            c.wrongState("a sixth", () -> x.threshold(51, true));
            c.same("five", "1 2 50 98 99", Pictures.thresholds(x));
        });
        s.holds("they are told from the least one on.", c -> {
            BandEngraver x = new BandEngraver();
            x.share(0);
            for (int v : new int[] {40, 99, 1, 98, 39}) {
                x.threshold(v, true);
            }
            c.same("from the least one on", "1 39 40 98 99", Pictures.thresholds(x));
            x.threshold(40, false);
            c.same("without the middle one", "1 39 98 99", Pictures.thresholds(x));
            x.threshold(99, false);
            c.same("without the last one", "1 39 98", Pictures.thresholds(x));
            x.threshold(1, false);
            c.same("without the first one", "39 98", Pictures.thresholds(x));
        });
        s.holds("The band of a grey is how many thresholds are not greater than it.", c -> {
            BandEngraver x = Pictures.row(0, 1, 49, 50, 51, 98, 99);
            for (int v : new int[] {1, 2, 98, 99}) {
                x.threshold(v, true);
            }
            int[] due = {0, 1, 2, 3, 3, 4, 5};
            for (int k = 0; k < 7; k++) {
                int cell = k;
                c.due("the band of the cell " + k, due[k], () -> x.cellOf(cell, 0, 1));
            }
            x.share(0);
            c.due("the highest without thresholds", 0, () -> x.cellOf(6, 0, 1));
        });
    }

    private void islands() {
        s.holds("Each cell has a band, at first that of its grey.", c -> {
            BandEngraver x = Pictures.plate("0123", "4500");
            c.same("of the least size 1", "0123/4500", Pictures.bands(x));
            c.due("cells off their grey", 0, () -> x.about(6));
        });
        s.holds("An island is cells of one band that are neighbours, and so on from cell to cell", c -> {
            // A snake over the whole plate, and what it leaves.
            BandEngraver x = Pictures.plate("11111", "00001", "11111", "10000", "11111");
            c.same("the snake", "00000/11110/00000/02222/00000", Pictures.islands(x));
            // A row that rises: its cells meet the first ones only below.
            BandEngraver y = Pictures.plate("10101", "11111");
            c.same("a comb", "01020/00000", Pictures.islands(y));
            BandEngraver z = Pictures.plate("001", "011", "111");
            c.same("what begins on the right", "001/011/111", Pictures.islands(z));
        });
        s.holds("its first cell is the one with the lowest number.", c -> {
            // The lowest number, not the one that is farthest to the left.
            BandEngraver x = Pictures.plate("0001", "0011", "1110");
            c.due("its first cell", 3, () -> x.island(1, 0));
            c.due("of one cell", 11, () -> x.island(2, 0));
        });
        s.holds("The border of two islands is how many sides cells of the one and cells of the other have in common.", c -> {
            // One cell may have several sides with the same island.
            BandEngraver x = Pictures.plate("000", "010", "222");
            c.due("three sides of one cell", 3, () -> x.border(0, 1));
            c.due("one below", 1, () -> x.border(1, 2));
            c.due("two beside it", 2, () -> x.border(2, 0));
        });
    }

    private static void merged(Checks c, String want, int least, String... rows) {
        BandEngraver x = Pictures.plate(rows);
        x.least(least);
        c.same(String.join("/", rows) + " of the least size " + least, want, Pictures.bands(x));
    }

    private void merging() {
        s.holds("There is a least size, at first 1.", c -> {
            BandEngraver x = new BandEngraver();
            c.due("at first", 1, () -> x.about(3));
            x.cell(0, 0, 99);
            c.due("an island of one cell stays", 2, () -> x.about(4));
        });
        s.holds("As long as there is an island with fewer cells than it", c -> {
            merged(c, "00111", 2, "00111");
            merged(c, "11111", 3, "00111");
            // One after the other, also what has grown but is still too small.
            merged(c, "3333333", 4, "0113333");
            merged(c, "1111", 3, "0123");
            merged(c, "1133", 2, "0133");
            BandEngraver x = new BandEngraver();
            x.plate(12, 12);
            x.box(0, 5, 0, 4, 99);
            x.least(30);
            c.due("30 cells stay", 2, () -> x.about(4));
            x.cell(5, 4, 0);
            c.due("29 cells go", 1, () -> x.about(4));
        });
        s.holds("and it is not the only one", c -> {
            merged(c, "3", 30, "3");
            merged(c, "22/22", 30, "22", "22");
            merged(c, "00/00", 30, "00", "01");
            BandEngraver x = Pictures.chequered(5, 5);
            x.least(30);
            c.due("25 cells are left as one", 1, () -> x.about(4));
            c.due("all of them", 25, () -> x.island(0, 1));
        });
        s.holds("the one with fewest cells, of several the one with the lowest first cell, is merged", c -> {
            // If the two began, they would go with the one.
            merged(c, "000222", 3, "001222");
            // If the last one began, 01 would go together and stay.
            merged(c, "1111", 2, "0123");
            // If the second one began, it would take the band of the first one.
            merged(c, "11/11", 3, "01", "01");
        });
    }

    private void takers() {
        s.holds("of the islands with which it has a border, the one with the longest border", c -> {
            merged(c, "555/555/222", 2, "555", "535", "222");
            // The fours are nearest, but only across.
            merged(c, "555/544/544", 2, "355", "544", "544");
            // Two islands of one band do not count together.
            merged(c, "0555/0555/0555", 2, "0555", "0105", "0555");
        });
        s.holds("of several the one whose band is nearest to its own", c -> {
            merged(c, "000/055/555", 2, "000", "035", "555");
            merged(c, "555/500/000", 2, "555", "520", "000");
            merged(c, "000333", 2, "001333");
            merged(c, "003333", 2, "002333");
            merged(c, "333000", 2, "333100");
            merged(c, "333300", 2, "333200");
            // What has been merged once has the band that it has got, a three here.
            merged(c, "0000555555", 3, "0000235555");
        });
        s.holds("of these the one with the lower band", c -> {
            merged(c, "111/115/555", 2, "111", "135", "555");
            merged(c, "555/511/111", 2, "555", "531", "111");
            merged(c, "55111", 2, "55311");
            merged(c, "11155", 2, "11355");
        });
        s.holds("of these the one with the lowest first cell, is taken", c -> {
            // Two that differ by their first cells alone are of one band: it joins both.
            merged(c, "00000", 2, "00100");
            BandEngraver x = Pictures.plate("00100");
            x.least(2);
            c.due("both are joined", 5, () -> x.island(0, 1));
        });
    }

    private void whatIsMerged() {
        s.holds("all cells of the island that is merged get its band", c -> {
            merged(c, "3333/3333/3333", 4, "3333", "3113", "3313");
            merged(c, "3333/3333/3333", 5, "3333", "3113", "3311");
            merged(c, "0000/0000/3333", 4, "0011", "0001", "3333");
        });
        s.holds("(Islands that are neighbours and of one band then are one island.)", c -> {
            BandEngraver x = Pictures.plate("0010044");
            x.least(2);
            c.due("islands of the least size 2", 2, () -> x.about(4));
            c.due("cells of the joined one", 5, () -> x.island(0, 1));
            // The joined one is big enough now, though its parts were not.
            x.least(3);
            c.due("islands of the least size 3", 1, () -> x.about(4));
            c.due("their band", 0, () -> x.island(0, 2));
            BandEngraver y = Pictures.plate("22122", "22322", "22122");
            y.least(2);
            c.due("two halves joined by what was between them", 1, () -> y.about(4));
        });
    }

    private void numbers() {
        s.holds("The islands that are left are the islands of the plate, numbered from 0 by their first cells.", c -> {
            BandEngraver x = Pictures.plate("0411", "0555");
            c.same("all", "0122/0333", Pictures.islands(x));
            x.least(2);
            // The fives begin ahead of the ones when the four is theirs.
            c.same("those that are left", "0122/0111", Pictures.islands(x));
            c.due("the first cell of the fives", 1, () -> x.island(1, 0));
            c.due("the first cell of the ones", 2, () -> x.island(2, 0));
            BandEngraver y = Pictures.plate("100", "222");
            y.least(2);
            c.same("the noughts get the first cell", "000/111", Pictures.islands(y));
            c.due("their first cell", 0, () -> y.island(0, 0));
            // What goes with an island that begins earlier begins where that does.
            BandEngraver z = Pictures.plate("0111", "0141", "0111");
            z.least(2);
            c.same("the ones", "0111/0111/0111", Pictures.islands(z));
            c.due("the first cell of the ones", 1, () -> z.island(1, 0));
        });
        s.holds("All that is told of bands and islands is told of these, if nothing else is said.", c -> {
            BandEngraver x = Pictures.plate("0411", "0555");
            x.least(2);
            c.due("the band of the cell", 5, () -> x.cellOf(1, 0, 2));
            c.due("the band of its grey", 4, () -> x.cellOf(1, 0, 1));
            c.due("its sides", 2, () -> x.cellOf(1, 0, 4));
            c.due("islands", 3, () -> x.about(4));
            c.due("islands of the least size 1", 4, () -> x.about(5));
            c.due("cells off their grey", 1, () -> x.about(6));
            c.due("sides", 5, () -> x.about(7));
            c.due("cells of the fives", 4, () -> x.band(5, 1));
            c.due("cells of the fours", 0, () -> x.band(4, 1));
            c.due("islands of the fours", 0, () -> x.band(4, 2));
            c.due("ink of the fives", 20, () -> x.band(5, 3));
            c.due("the border of fives and ones", 3, () -> x.border(1, 2));
            c.same("the outline of the fives", "0100122233", Pictures.ways(x, 1));
            c.due("ink", 20 + 2 + 5, () -> x.ink());
        });
    }

    private static void outlined(Checks c, String want, int i, String... rows) {
        c.same("the outline of " + i + " in " + String.join("/", rows), want,
                Pictures.ways(Pictures.plate(rows), i));
    }

    private void outlines() {
        s.holds("it begins at the upper left corner of its first cell, and goes east along its upper side", c -> {
            outlined(c, "011122230303", 1, "001", "011", "111");
            outlined(c, "0123", 0, "0");
            outlined(c, "0123", 1, "00", "01");
        });
        s.holds("The ways are 0 east, 1 south, 2 west, 3 north.", c -> {
            outlined(c, "00012223", 0, "000");
            outlined(c, "01112333", 0, "0", "0", "0");
        });
        s.holds("It ends when it is where it began and would go east again along that side.", c -> {
            // A row is followed once, though it comes back below.
            BandEngraver x = Pictures.plate("000");
            c.due("sides of a row", 8, () -> x.outline(0, 0));
            c.due("the last one", 3, () -> x.outlineWay(0, 7));
            c.noSuch("one more", () -> x.outlineWay(0, 8));
            // A whole plate: as many sides as the edge has.
            BandEngraver y = new BandEngraver();
            y.plate(12, 12);
            c.due("sides of the plate", 48, () -> y.outline(0, 0));
            c.due("the last of the plate", 3, () -> y.outlineWay(0, 47));
            c.noSuch("behind the last of the plate", () -> y.outlineWay(0, 48));
        });
    }

    private void corners() {
        s.holds("the island is on the right all the time.", c -> {
            // Round its hole the island would be on the right too, but that is not its outline.
            outlined(c, "000111222333", 0, "111", "101", "111");
            outlined(c, "0123", 1, "111", "101", "111");
        });
        s.holds("if the cell that is ahead on the right is not of the island, it turns right", c -> {
            // Where two cells of the island meet across, it turns right and not to the other one.
            outlined(c, "0001123210122333", 0, "111", "101", "110");
            // So it does at the edge of the plate.
            outlined(c, "00112233", 0, "22", "22");
        });
        s.holds("otherwise, if the cell that is ahead on the left is of the island, it turns left", c -> {
            outlined(c, "01012233", 0, "10", "11");
            outlined(c, "010301122233", 0, "101", "111");
            BandEngraver x = Pictures.plate("101", "111");
            c.due("turns to the right", 6, () -> x.outline(0, 1));
            c.due("turns to the left", 2, () -> x.outline(0, 2));
        });
        s.holds("otherwise it goes straight on.", c -> {
            outlined(c, "000111222333", 0, "111", "111", "111");
            BandEngraver x = Pictures.plate("111", "111", "111");
            c.due("turns to the right", 4, () -> x.outline(0, 1));
            c.due("turns to the left", 0, () -> x.outline(0, 2));
        });
    }

    private static void holesAre(Checks c, int want, String... rows) {
        BandEngraver x = Pictures.plate(rows);
        c.due("holes of the first island of " + String.join("/", rows), want, () -> x.island(0, 6));
    }

    private void holes() {
        s.holds("A hole of an island is cells that are not of it, each of which is around the next one, and so on from cell to cell", c -> {
            holesAre(c, 1, "111", "101", "111");
            holesAre(c, 2, "11111", "10101", "11111");
            holesAre(c, 1, "11111", "10111", "11011", "11111");
            holesAre(c, 1, "11111", "11101", "11011", "10111", "11111");
            // What hangs together only below, or above.
            holesAre(c, 1, "11111", "10101", "10001", "11111");
            holesAre(c, 1, "11111", "10001", "10101", "11111");
            holesAre(c, 1, "111111", "110101", "101011", "111111");
            // Cells of several bands make one hole.
            holesAre(c, 1, "111111", "102341", "111111");
            // A ring that is open across closes nothing.
            holesAre(c, 0, "111", "101", "110");
        });
        s.holds("and none of which is in the first or last column or row of the plate.", c -> {
            holesAre(c, 0, "101", "101", "111");
            holesAre(c, 0, "111", "101", "101");
            holesAre(c, 0, "111", "001", "111");
            holesAre(c, 0, "111", "100", "111");
            holesAre(c, 0, "11011", "11011", "11111");
            holesAre(c, 0, "11111", "11011", "11011");
            holesAre(c, 0, "1111", "1111", "0011", "1111", "1111");
            holesAre(c, 0, "1111", "1111", "1100", "1111", "1111");
            // One row or column farther in there is one.
            holesAre(c, 1, "11111", "11011", "11011", "11111");
            holesAre(c, 1, "11111", "10001", "11111");
            holesAre(c, 0, "11", "01", "11");
            holesAre(c, 0, "111", "101");
            holesAre(c, 0, "101");
            BandEngraver x = Pictures.plate("0111", "1011", "1111");
            c.due("from the first corner, across", 0, () -> x.about(8));
            BandEngraver y = Pictures.plate("1111", "1011", "1101", "1110");
            c.due("to the last corner, across", 0, () -> y.about(8));
        });
    }

    private void mothers() {
        s.holds("An island lies in another one if its cells are in a hole of that.", c -> {
            BandEngraver x = Pictures.plate("00000", "01110", "01210", "01110", "00000");
            c.due("in the outermost", 2, () -> x.island(0, 8));
            c.due("in the ring", 1, () -> x.island(1, 8));
            c.due("in the cell", 0, () -> x.island(2, 8));
            // In the bay of a ring that is open at the edge, or across, lies nothing.
            BandEngraver y = Pictures.plate("1111", "1021", "1101");
            c.due("in the bay", 0, () -> y.island(0, 8));
            c.due("the mother of what is in the bay", -1, () -> y.island(1, 7));
        });
        s.holds("The mother of an island is the one in which it lies, of several the one with the fewest cells", c -> {
            BandEngraver x = Pictures.plate("0000000", "0111110", "0111110", "0112210", "0111110", "0111110", "0000000");
            c.due("23 cells against 24", 1, () -> x.island(2, 7));
            c.due("the mother of the ring", 0, () -> x.island(1, 7));
            c.due("the mother of the outermost", -1, () -> x.island(0, 7));
            BandEngraver y = Pictures.plate("00000000", "01111110", "01111110", "01121110", "01111110", "01111110", "00000000");
            c.due("29 cells against 26", 0, () -> y.island(2, 7));
        });
        s.holds("of several of these the lowest.", c -> {
            BandEngraver x = Pictures.plate("0000000", "0111110", "0111110", "0112110", "0111110", "0111110", "0000000");
            c.due("24 cells and 24", 0, () -> x.island(0, 1) - x.island(1, 1));
            c.due("the mother", 0, () -> x.island(2, 7));
        });
    }

    private void ink() {
        s.holds("The hatching of a cell needs as much ink as the hatching of its band tells", c -> {
            // The band of the cell in the middle is not that of its grey.
            BandEngraver x = Pictures.plate("00500");
            c.due("one five and two sides", 5 + 2, () -> x.ink());
            x.least(2);
            c.due("all noughts", 0, () -> x.ink());
            x.hatch(0, 9);
            c.due("all of the band 0", 45, () -> x.ink());
        });
        s.holds("each band, 0 to 5, has one of 0 to 9, at first its number.", c -> {
            BandEngraver x = new BandEngraver();
            for (int b = 0; b <= 5; b++) {
                int band = b;
                c.due("at first, of the band " + b, b, () -> x.hatch(band, 9));
                c.due("the highest", 9, () -> x.hatch(band, 0));
                c.due("the lowest", 0, () -> x.hatch(band, 9));
            }
            BandEngraver y = Pictures.plate("012345");
            y.line(0);
            c.due("ink of all six", 15, () -> y.ink());
        });
        s.holds("Each side between two islands needs as much ink as the line tells, 0 to 9, at first 1.", c -> {
            BandEngraver x = Pictures.chequered(12, 12);
            x.hatch(1, 0);
            c.due("264 sides at first", 264, () -> x.ink());
            x.line(9);
            c.due("264 thick sides", 2376, () -> x.ink());
            x.line(0);
            c.due("without lines", 0, () -> x.ink());
        });
        s.holds("(Sides at the edge of the plate need none.)", c -> {
            BandEngraver x = new BandEngraver();
            x.line(9);
            c.due("one island", 0, () -> x.ink());
            x.plate(1, 1);
            c.due("one cell", 0, () -> x.ink());
            x.cell(0, 0, 99);
            c.due("one dark cell", 1, () -> x.ink());
        });
    }
}
