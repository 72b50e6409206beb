/** Promises 1 and 6 to 14: a new object, and what is told of cells, islands, outlines, bands and ink. */
public final class TellingTest {
    private static final Checks CHECKS = new Checks();

    /** A ring in a plate, with a cell in the ring. */
    private static final String[] RING = {
        "00000",
        "01110",
        "01210",
        "01110",
        "00000"};

    public static void main(String[] args) {
        newObject();
        islandOfNewObject();
        aboutArguments();
        aboutRing();
        aboutMergedCells();
        cellNumbers();
        distanceToAnotherBand();
        thresholdPlaces();
        islandNumbers();
        mergedByTheLongestBorder();
        mergedByTheNearestBand();
        mergedInOrder();
        mergedUntilOneIsLeft();
        holesAreClosedAcross();
        holesHangTogetherAcross();
        mothers();
        borders();
        outlines();
        outlineOfAPinch();
        outlineOfAComb();
        bands();
        ink();
        CHECKS.end();
    }

    private static void newObject() {
        BandEngraver x = new BandEngraver();
        CHECKS.due("NONE", -1, () -> BandEngraver.NONE);
        long[] want = {8, 8, 1, 1, 1, 1, 0, 0, 0, 1, 0};
        for (int what = 0; what <= 10; what++) {
            int w = what;
            CHECKS.due("new, about " + w, want[w], () -> x.about(w));
        }
        CHECKS.due("new, thresholdAt(0)", 50, () -> x.thresholdAt(0));
        CHECKS.due("new, band(1, 0)", 1, () -> x.band(1, 0));
        CHECKS.due("new, cellOf(7, 7, 0)", 0, () -> x.cellOf(7, 7, 0));
        CHECKS.due("new, ink", 0, () -> x.ink());
        CHECKS.due("new, errorPosition", 0, () -> x.errorPosition());
        CHECKS.wrongState("new, undo", () -> x.undo());
        CHECKS.wrongState("new, restore(0)", () -> x.restore(0));
    }

    /** Asked before anything else is: the first answer must not lean on an earlier finding. */
    private static void islandOfNewObject() {
        CHECKS.due("new, island(0, 7)", -1, () -> new BandEngraver().island(0, 7));
        CHECKS.due("new, border(0, 0)", 0, () -> new BandEngraver().border(0, 0));
        CHECKS.due("new, outline(0, 0)", 32, () -> new BandEngraver().outline(0, 0));
        CHECKS.due("new, outlineWay(0, 31)", 3, () -> new BandEngraver().outlineWay(0, 31));
        CHECKS.noSuch("new, outlineWay(0, 32)", () -> new BandEngraver().outlineWay(0, 32));
        CHECKS.noSuch("new, island(1, 0)", () -> new BandEngraver().island(1, 0));
        islandIs(new BandEngraver(), 0, 0, 64, 0, 0, 32, 0, 0, -1, 0);
    }

    private static void aboutArguments() {
        BandEngraver x = new BandEngraver();
        CHECKS.outOfRange("about(-1)", () -> x.about(-1));
        CHECKS.outOfRange("about(11)", () -> x.about(11));
        CHECKS.outOfRange("about(highest)", () -> x.about(Integer.MAX_VALUE));
    }

    private static void aboutRing() {
        BandEngraver x = Pictures.plate(RING);
        x.line(7);
        // The sides: 12 around the ring, 4 around the cell in it. The sum: 8 times 10, and 20.
        long[] want = {5, 5, 5, 1, 3, 3, 0, 16, 2, 7, 100};
        for (int what = 0; what <= 10; what++) {
            int w = what;
            CHECKS.due("ring, about " + w, want[w], () -> x.about(w));
        }
    }

    private static void aboutMergedCells() {
        BandEngraver x = Pictures.plate(RING);
        x.least(2);
        long[] want = {5, 5, 5, 2, 2, 3, 1, 12, 1, 1, 100};
        for (int what = 0; what <= 10; what++) {
            int w = what;
            CHECKS.due("ring of the least size 2, about " + w, want[w], () -> x.about(w));
        }
    }

    private static void cellNumbers() {
        BandEngraver x = Pictures.plate(RING);
        x.least(2);
        x.cell(2, 2, 25);
        CHECKS.due("its grey", 25, () -> x.cellOf(2, 2, 0));
        CHECKS.due("the band of its grey", 2, () -> x.cellOf(2, 2, 1));
        CHECKS.due("its band", 1, () -> x.cellOf(2, 2, 2));
        CHECKS.due("its island", 1, () -> x.cellOf(2, 2, 3));
        CHECKS.due("its sides", 0, () -> x.cellOf(2, 2, 4));
        CHECKS.due("a corner of the ring, its sides", 2, () -> x.cellOf(1, 1, 4));
        CHECKS.due("beside the ring, its sides", 1, () -> x.cellOf(0, 1, 4));
        CHECKS.due("the corner of the plate, its sides", 0, () -> x.cellOf(0, 0, 4));
        CHECKS.noSuch("cellOf(5, 0)", () -> x.cellOf(5, 0, 0));
        CHECKS.noSuch("cellOf(0, 5)", () -> x.cellOf(0, 5, 0));
        CHECKS.noSuch("cellOf(-1, 0)", () -> x.cellOf(-1, 0, 0));
        CHECKS.noSuch("cellOf(0, -1)", () -> x.cellOf(0, -1, 0));
        CHECKS.noSuch("cellOf(0, 5, 6)", () -> x.cellOf(0, 5, 6));
        CHECKS.outOfRange("cellOf(0, 0, 6)", () -> x.cellOf(0, 0, 6));
        CHECKS.outOfRange("cellOf(0, 0, -1)", () -> x.cellOf(0, 0, -1));
    }

    private static void distance(int grey, int want, int... thresholds) {
        BandEngraver x = new BandEngraver();
        x.threshold(50, false);
        for (int v : thresholds) {
            x.threshold(v, true);
        }
        x.cell(0, 0, grey);
        CHECKS.due("distance of " + grey, want, () -> x.cellOf(0, 0, 5));
    }

    private static void distanceToAnotherBand() {
        distance(40, -1);
        distance(40, 10, 50);
        distance(50, 1, 50);
        distance(49, 1, 50);
        distance(55, 6, 50, 70);
        distance(65, 5, 50, 70);
        distance(0, 1, 1);
        distance(1, 1, 1);
        distance(0, 99, 99);
        distance(99, 99, 1);
    }

    private static void thresholdPlaces() {
        BandEngraver x = new BandEngraver();
        x.threshold(99, true);
        x.threshold(1, true);
        CHECKS.due("thresholdAt(0)", 1, () -> x.thresholdAt(0));
        CHECKS.due("thresholdAt(1)", 50, () -> x.thresholdAt(1));
        CHECKS.due("thresholdAt(2)", 99, () -> x.thresholdAt(2));
        CHECKS.noSuch("thresholdAt(3)", () -> x.thresholdAt(3));
        CHECKS.noSuch("thresholdAt(-1)", () -> x.thresholdAt(-1));
        x.share(0);
        CHECKS.noSuch("thresholdAt(0) without any", () -> x.thresholdAt(0));
    }

    private static void islandIs(BandEngraver x, int i, int... want) {
        for (int what = 0; what <= 8; what++) {
            int w = what;
            CHECKS.due("island(" + i + ", " + w + ")", want[w], () -> x.island(i, w));
        }
    }

    private static void islandNumbers() {
        BandEngraver x = Pictures.plate(RING);
        islandIs(x, 0, 0, 16, 0, 12, 20, 1, 1, -1, 2);
        islandIs(x, 1, 6, 8, 1, 16, 0, 2, 1, 0, 1);
        islandIs(x, 2, 12, 1, 2, 4, 0, 1, 0, 1, 0);
        CHECKS.noSuch("island(3, 0)", () -> x.island(3, 0));
        CHECKS.noSuch("island(-1, 0)", () -> x.island(-1, 0));
        CHECKS.noSuch("island(3, 9)", () -> x.island(3, 9));
        CHECKS.outOfRange("island(0, 9)", () -> x.island(0, 9));
        CHECKS.outOfRange("island(0, -1)", () -> x.island(0, -1));
        BandEngraver narrow = Pictures.plate("010");
        islandIs(narrow, 0, 0, 1, 0, 1, 3, 1, 0, -1, 0);
        islandIs(narrow, 1, 1, 1, 1, 2, 2, 2, 0, -1, 0);
    }

    private static void merged(String want, int least, String... rows) {
        BandEngraver x = Pictures.plate(rows);
        x.least(least);
        CHECKS.same("merged to " + least, want, Pictures.bands(x));
    }

    private static void mergedByTheLongestBorder() {
        // Three sides with the band that is farther away, one with the nearer one.
        merged("555/555/222", 2, "555", "535", "222");
        merged("000/000/444", 2, "000", "030", "444");
    }

    private static void mergedByTheNearestBand() {
        merged("000/055/555", 2, "000", "035", "555");
        merged("555/500/000", 2, "555", "520", "000");
        // As near the one as the other: the lower band.
        merged("111/115/555", 2, "111", "135", "555");
        merged("555/511/111", 2, "555", "531", "111");
    }

    private static void mergedInOrder() {
        // The one with fewest cells goes first, though another one begins earlier.
        merged("000222", 3, "001222");
        // Of as many cells the one with the lower first cell.
        merged("1111", 2, "0123");
        merged("0000", 2, "0013");
        // What has been merged is merged again while it is small: it goes with the band it has got.
        merged("3333333", 4, "0113333");
        BandEngraver x = Pictures.plate("00100");
        x.least(2);
        CHECKS.due("what is joined", 5, () -> x.island(0, 1));
        CHECKS.due("what is joined is one", 1, () -> x.about(4));
        // Islands as big as the least size stay.
        merged("0011", 2, "0011");
    }

    private static void mergedUntilOneIsLeft() {
        merged("3", 30, "3");
        merged("00/00", 30, "00", "01");
        BandEngraver x = Pictures.plate("0123", "4501");
        x.least(30);
        CHECKS.due("one is left", 1, () -> x.about(4));
        CHECKS.due("without neighbours", 0, () -> x.island(0, 5));
    }

    private static void holesAreClosedAcross() {
        // The ring is open across at its corner, so there is no hole in it.
        BandEngraver x = Pictures.plate("00000", "00110", "01210", "01110", "00000");
        CHECKS.due("holes of the open ring", 0, () -> x.island(1, 6));
        CHECKS.due("what lies in it", 0, () -> x.island(1, 8));
        CHECKS.due("holes around it", 1, () -> x.island(0, 6));
        CHECKS.due("mother of the cell in it", 0, () -> x.island(2, 7));
    }

    private static void holesHangTogetherAcross() {
        BandEngraver x = Pictures.plate("11111", "10111", "11011", "11111");
        CHECKS.due("holes", 1, () -> x.island(0, 6));
        CHECKS.due("what lies in it", 2, () -> x.island(0, 8));
        BandEngraver y = Pictures.plate("111111", "101101", "111111");
        CHECKS.due("two holes", 2, () -> y.island(0, 6));
        CHECKS.due("holes of all", 2, () -> y.about(8));
        // What touches the edge, across too, is no hole.
        BandEngraver z = Pictures.plate("0111", "1011", "1111");
        CHECKS.due("no hole at the edge", 0, () -> z.about(8));
    }

    private static void mothers() {
        BandEngraver x = Pictures.plate(
                "0000000",
                "0111110",
                "0100010",
                "0102010",
                "0100010",
                "0111110",
                "0000000");
        CHECKS.same("islands", "0000000/0111110/0122210/0123210/0122210/0111110/0000000",
                Pictures.islands(x));
        CHECKS.due("mother of the innermost", 2, () -> x.island(3, 7));
        CHECKS.due("mother of the inner ring", 1, () -> x.island(2, 7));
        CHECKS.due("mother of the outer ring", 0, () -> x.island(1, 7));
        CHECKS.due("mother of all", -1, () -> x.island(0, 7));
        CHECKS.due("in the outermost", 3, () -> x.island(0, 8));
        // The mother is the one with fewest cells, though it need not be the nearest.
        x.cell(0, 0, 50);
        CHECKS.due("mother of the innermost, moved", 3, () -> x.island(4, 7));
        CHECKS.due("the corner lies in none", -1, () -> x.island(0, 7));
    }

    private static void borders() {
        BandEngraver x = Pictures.plate(RING);
        CHECKS.due("border(0, 1)", 12, () -> x.border(0, 1));
        CHECKS.due("border(1, 0)", 12, () -> x.border(1, 0));
        CHECKS.due("border(1, 2)", 4, () -> x.border(1, 2));
        CHECKS.due("border(0, 2)", 0, () -> x.border(0, 2));
        CHECKS.due("border(1, 1)", 0, () -> x.border(1, 1));
        CHECKS.noSuch("border(3, 0)", () -> x.border(3, 0));
        CHECKS.noSuch("border(0, 3)", () -> x.border(0, 3));
        CHECKS.noSuch("border(-1, 0)", () -> x.border(-1, 0));
        CHECKS.noSuch("border(0, -1)", () -> x.border(0, -1));
    }

    private static void outlineIs(BandEngraver x, int i, String ways, int right, int left) {
        CHECKS.due("outline(" + i + ", 0)", ways.length(), () -> x.outline(i, 0));
        CHECKS.due("outline(" + i + ", 1)", right, () -> x.outline(i, 1));
        CHECKS.due("outline(" + i + ", 2)", left, () -> x.outline(i, 2));
        for (int k = 0; k < ways.length(); k++) {
            int side = k;
            CHECKS.due("outlineWay(" + i + ", " + k + ")", ways.charAt(k) - '0',
                    () -> x.outlineWay(i, side));
        }
        CHECKS.noSuch("outlineWay behind the last", () -> x.outlineWay(i, ways.length()));
        CHECKS.noSuch("outlineWay(-1)", () -> x.outlineWay(i, -1));
    }

    private static void outlines() {
        BandEngraver x = Pictures.plate("100", "110", "000");
        outlineIs(x, 0, "01012233", 5, 1);
        outlineIs(x, 1, "00111222300323", 6, 2);
        BandEngraver one = Pictures.plate("0");
        outlineIs(one, 0, "0123", 4, 0);
        // Of a ring only the outer side is followed.
        BandEngraver ring = Pictures.plate(RING);
        outlineIs(ring, 1, "000111222333", 4, 0);
        outlineIs(ring, 2, "0123", 4, 0);
        CHECKS.noSuch("outline(3, 0)", () -> ring.outline(3, 0));
        CHECKS.noSuch("outline(-1, 0)", () -> ring.outline(-1, 0));
        CHECKS.noSuch("outline(3, 3)", () -> ring.outline(3, 3));
        CHECKS.outOfRange("outline(0, 3)", () -> ring.outline(0, 3));
        CHECKS.outOfRange("outline(0, -1)", () -> ring.outline(0, -1));
        CHECKS.noSuch("outlineWay(3, 0)", () -> ring.outlineWay(3, 0));
        CHECKS.noSuch("outlineWay(-1, 0)", () -> ring.outlineWay(-1, 0));
        CHECKS.noSuch("outlineWay(0, highest)", () -> ring.outlineWay(0, Integer.MAX_VALUE));
    }

    private static void outlineOfAPinch() {
        BandEngraver x = Pictures.plate("111", "101", "110");
        outlineIs(x, 0, "0001123210122333", 7, 3);
    }

    /** A comb of six teeth: its 78 cells hang together as a tree, which makes 2 * 78 + 2 sides. */
    private static void outlineOfAComb() {
        BandEngraver x = new BandEngraver();
        x.plate(12, 12);
        x.box(0, 11, 0, 0, 90);
        for (int column = 0; column < 12; column += 2) {
            x.box(column, column, 0, 11, 90);
        }
        CHECKS.due("sides of the comb", 158, () -> x.outline(0, 0));
        // At the end of the back the outline turns right once more, below its overhang.
        CHECKS.due("turns to the right", 15, () -> x.outline(0, 1));
        CHECKS.due("turns to the left", 11, () -> x.outline(0, 2));
        CHECKS.due("the last side", 3, () -> x.outlineWay(0, 157));
        // The first tooth's left side is twelve cells long.
        CHECKS.due("the foot of the first tooth", 2, () -> x.outlineWay(0, 145));
        CHECKS.due("its left side", 3, () -> x.outlineWay(0, 146));
        CHECKS.noSuch("behind the last side", () -> x.outlineWay(0, 158));
    }

    private static void bandIs(BandEngraver x, int b, int... want) {
        for (int what = 0; what <= 3; what++) {
            int w = what;
            CHECKS.due("band(" + b + ", " + w + ")", want[w], () -> x.band(b, w));
        }
    }

    private static void bands() {
        BandEngraver x = Pictures.plate("0120", "2222");
        x.hatch(0, 9);
        bandIs(x, 0, 9, 2, 2, 18);
        bandIs(x, 1, 1, 1, 1, 1);
        bandIs(x, 2, 2, 5, 1, 10);
        bandIs(x, 5, 5, 0, 0, 0);
        x.least(2);
        // The first cell goes to the nearer band of two, the last one to where it has two sides.
        bandIs(x, 0, 9, 0, 0, 0);
        bandIs(x, 1, 1, 2, 1, 2);
        bandIs(x, 2, 2, 6, 1, 12);
        CHECKS.noSuch("band(6, 0)", () -> x.band(6, 0));
        CHECKS.noSuch("band(-1, 0)", () -> x.band(-1, 0));
        CHECKS.outOfRange("band(0, 4)", () -> x.band(0, 4));
        CHECKS.outOfRange("band(0, -1)", () -> x.band(0, -1));
        BandEngraver fresh = new BandEngraver();
        CHECKS.noSuch("band(2, 4) with one threshold", () -> fresh.band(2, 4));
        CHECKS.due("band(1, 0) with one threshold", 1, () -> fresh.band(1, 0));
        fresh.share(0);
        CHECKS.noSuch("band(1, 0) with none", () -> fresh.band(1, 0));
    }

    private static void ink() {
        BandEngraver x = Pictures.plate("0120", "2222");
        // The hatching: 1 and five times 2. The sides: three in the first row, three below it.
        CHECKS.due("ink", 11 + 6, () -> x.ink());
        x.line(4);
        CHECKS.due("ink with thick lines", 11 + 24, () -> x.ink());
        x.line(0);
        x.hatch(2, 0);
        CHECKS.due("ink without lines", 1, () -> x.ink());
        x.line(1);
        x.least(2);
        // 1122 above 2222: three sides.
        CHECKS.due("ink of what is merged", 2 + 3, () -> x.ink());
        x.hatch(2, 3);
        CHECKS.due("ink of what is merged, hatched", 2 + 18 + 3, () -> x.ink());
    }
}
