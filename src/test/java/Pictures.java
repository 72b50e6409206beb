/** Plates from pictures, and texts put into the buffer, for the tests. */
final class Pictures {
    private Pictures() {
    }

    /** A plate with the thresholds 10, 20, 30, 40, 50; the digit d in a row is the grey 10 * d. */
    static BandEngraver plate(String... rows) {
        BandEngraver x = new BandEngraver();
        for (int v = 10; v <= 40; v += 10) {
            x.threshold(v, true);
        }
        x.plate(rows[0].length(), rows.length);
        for (int row = 0; row < rows.length; row++) {
            for (int column = 0; column < rows[row].length(); column++) {
                x.cell(column, row, 10 * (rows[row].charAt(column) - '0'));
            }
        }
        return x;
    }

    /** The picture of the bands of all cells. */
    static String bands(BandEngraver x) {
        return picture(x, 2);
    }

    static String islands(BandEngraver x) {
        return picture(x, 3);
    }

    /** The greys of all cells, row by row. */
    static String greys(BandEngraver x) {
        StringBuilder found = new StringBuilder();
        for (int y = 0; y < x.about(1); y++) {
            found.append(y == 0 ? "" : "/");
            for (int column = 0; column < x.about(0); column++) {
                found.append(column == 0 ? "" : " ").append(x.cellOf(column, y, 0));
            }
        }
        return found.toString();
    }

    static String thresholds(BandEngraver x) {
        StringBuilder found = new StringBuilder();
        for (int k = 0; k < x.about(2); k++) {
            found.append(k == 0 ? "" : " ").append(x.thresholdAt(k));
        }
        return found.toString();
    }

    static void write(BandEngraver x, String text) {
        x.clearText();
        for (int k = 0; k < text.length(); k++) {
            x.append(text.charAt(k));
        }
    }

    /** All that a state is, and some of what is found out of it, to see whether anything changed. */
    static String all(BandEngraver x) {
        StringBuilder found = new StringBuilder(greys(x));
        found.append(' ').append(thresholds(x)).append(' ').append(bands(x));
        for (int what = 0; what <= 10; what++) {
            found.append(' ').append(x.about(what));
        }
        for (int b = 0; b <= x.about(2); b++) {
            found.append(' ').append(x.band(b, 0));
        }
        return found.append(' ').append(x.ink()).append(' ').append(x.errorPosition()).toString();
    }

    private static String picture(BandEngraver x, int what) {
        StringBuilder found = new StringBuilder();
        for (int y = 0; y < x.about(1); y++) {
            found.append(y == 0 ? "" : "/");
            for (int column = 0; column < x.about(0); column++) {
                found.append(x.cellOf(column, y, what));
            }
        }
        return found.toString();
    }
}
