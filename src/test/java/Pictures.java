/** Plates from pictures, and texts put into the buffer, for the tests. */
final class Pictures {
    private Pictures() {
    }

    /** A plate with the thresholds 10, 20, 30, 40, 50; the digit d in a row is the grey 10 * d. */
    static BandEngraver plate(String... rows) {
        BandEngraver x = new BandEngraver();
        for (int v = 10; v <= 40; v += 10) {
            x.threshold(v, true);
        }
        x.plate(rows[0].length(), rows.length);
        for (int row = 0; row < rows.length; row++) {
            for (int column = 0; column < rows[row].length(); column++) {
                x.cell(column, row, 10 * (rows[row].charAt(column) - '0'));
            }
        }
        return x;
    }

    /** A plate with the threshold 50 whose cells are 0 and 99 in turns: each is an island. */
    static BandEngraver chequered(int columns, int rows) {
        BandEngraver x = new BandEngraver();
        x.plate(columns, rows);
        for (int c = 0; c < columns * rows; c++) {
            if ((c % columns + c / columns) % 2 == 1) {
                x.cell(c % columns, c / columns, 99);
            }
        }
        return x;
    }

    /** One row of these greys, with the threshold 50. */
    static BandEngraver row(int... greys) {
        BandEngraver x = new BandEngraver();
        x.plate(greys.length, 1);
        for (int k = 0; k < greys.length; k++) {
            x.cell(k, 0, greys[k]);
        }
        return x;
    }

    /** The picture of the bands of all cells. */
    static String bands(BandEngraver x) {
        return picture(x, 2);
    }

    static String islands(BandEngraver x) {
        return picture(x, 3);
    }

    /** The greys of all cells, row by row. */
    static String greys(BandEngraver x) {
        StringBuilder found = new StringBuilder();
        for (int y = 0; y < x.about(1); y++) {
            found.append(y == 0 ? "" : "/");
            for (int column = 0; column < x.about(0); column++) {
                found.append(column == 0 ? "" : " ").append(x.cellOf(column, y, 0));
            }
        }
        return found.toString();
    }

    static String thresholds(BandEngraver x) {
        StringBuilder found = new StringBuilder();
        for (int k = 0; k < x.about(2); k++) {
            found.append(k == 0 ? "" : " ").append(x.thresholdAt(k));
        }
        return found.toString();
    }

    /** The ways of all sides of an outline. */
    static String ways(BandEngraver x, int i) {
        StringBuilder found = new StringBuilder();
        int sides = x.outline(i, 0);
        for (int k = 0; k < sides; k++) {
            found.append(x.outlineWay(i, k));
        }
        return found.toString();
    }

    static void write(BandEngraver x, String text) {
        x.clearText();
        for (int k = 0; k < text.length(); k++) {
            x.append(text.charAt(k));
        }
    }

    /** All that a state is, and some of what is found out of it, to see whether anything changed. */
    static String all(BandEngraver x) {
        StringBuilder found = new StringBuilder(greys(x));
        found.append(' ').append(thresholds(x)).append(' ').append(bands(x));
        for (int what = 0; what <= 10; what++) {
            found.append(' ').append(x.about(what));
        }
        for (int b = 0; b <= x.about(2); b++) {
            found.append(' ').append(x.band(b, 0));
        }
        return found.append(' ').append(x.ink()).append(' ').append(x.errorPosition()).toString();
    }

    /** The answers to all questions of what there is, but for the text. */
    static String everything(BandEngraver x) {
        StringBuilder found = new StringBuilder(thresholds(x));
        for (int what = 0; what <= 10; what++) {
            found.append(' ').append(x.about(what));
        }
        for (int c = 0; c < x.about(0) * x.about(1); c++) {
            for (int what = 0; what <= 5; what++) {
                found.append(' ').append(x.cellOf(c % x.about(0), c / x.about(0), what));
            }
        }
        for (int b = 0; b <= x.about(2); b++) {
            for (int what = 0; what <= 3; what++) {
                found.append(' ').append(x.band(b, what));
            }
        }
        for (int i = 0; i < x.about(4); i++) {
            island(x, i, found);
        }
        return found.append(' ').append(x.ink()).toString();
    }

    private static void island(BandEngraver x, int i, StringBuilder found) {
        for (int what = 0; what <= 8; what++) {
            found.append(' ').append(x.island(i, what));
        }
        for (int j = 0; j < x.about(4); j++) {
            found.append(' ').append(x.border(i, j));
        }
        for (int what = 0; what <= 2; what++) {
            found.append(' ').append(x.outline(i, what));
        }
        found.append(' ').append(ways(x, i));
    }

    private static String picture(BandEngraver x, int what) {
        StringBuilder found = new StringBuilder();
        for (int y = 0; y < x.about(1); y++) {
            found.append(y == 0 ? "" : "/");
            for (int column = 0; column < x.about(0); column++) {
                found.append(x.cellOf(column, y, what));
            }
        }
        return found.toString();
    }
}
