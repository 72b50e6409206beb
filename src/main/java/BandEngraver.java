import java.util.Arrays;

/**
 * Plates that are engraved by bands of grey. What each call answers is told by the document
 * (DOC.md); the numbers in the comments below are those of its promises.
 *
 * All rows are made once, with the object, and used again by every call: a call makes nothing but
 * the exception that it may throw.
 */
public final class BandEngraver {
    public static final int NONE = -1;

    private static final int MOST_COLUMNS = 12;
    private static final int MOST_ROWS = 12;
    private static final int MOST_CELLS = 144;
    private static final int MOST_GREY = 99;
    private static final int MOST_THRESHOLDS = 5;
    private static final int HIGHEST_BAND = 5;
    private static final int MOST_LEAST = 30;
    private static final int MOST_INK = 9;
    private static final int MOST_SPREAD = 49;
    private static final int MOST_NOISE = 50;
    private static final int MOST_TURNS = 60;
    private static final int MOST_SIGNS = 120;
    private static final int MOST_REMEMBERED = 14;
    private static final int SLOTS = 2;
    private static final int WAYS = 4;

    /** A command of a script is a group of eight decimal digits. */
    private static final int GROUP = 100000000;

    private static final long FACTOR = 6364136223846793005L;
    private static final long ADDEND = 1442695040888963407L;

    private final Text text = new Text();
    private final State state = new State();
    private final Memory memory = new Memory();
    private final State[] slots = new State[SLOTS];
    private final boolean[] saved = new boolean[SLOTS];

    /** What is found out of the state; kept until the state changes. */
    private final Islands islands = new Islands();
    private final Nest nest = new Nest();
    private boolean islandsKnown = false;
    private boolean nestKnown = false;

    /** Room for what would be. */
    private final State trial = new State();
    private final Islands trialIslands = new Islands();
    private final Outline contour = new Outline();
    private final int[] greysBefore = new int[MOST_CELLS];

    public BandEngraver() {
        for (int slot = 0; slot < SLOTS; slot++) {
            slots[slot] = new State();
        }
    }

    // ---- text (2 to 5)

    public int append(int c) throws IllegalArgumentException, IllegalStateException {
        mustBeWithin(c, 0, 255);
        if (text.isFull()) {
            throw new IllegalStateException("the text is full");
        }
        return text.add(c);
    }

    public int clearText() {
        return text.empty();
    }

    public int errorPosition() {
        return text.firstError();
    }

    public int load() throws IllegalStateException {
        if (text.firstError() != NONE) {
            throw new IllegalStateException("the text is not a plate");
        }
        memory.forgetAll();
        for (int slot = 0; slot < SLOTS; slot++) {
            saved[slot] = false;
        }
        forgetFindings();
        state.reset(text.numberAt(1), text.numberAt(3));
        int leftOut = 0;
        int position = text.wordEnd(0);
        for (int word = 0; word < MOST_SIGNS && position < text.length; word++) {
            if (!obeysWord(position)) {
                leftOut++;
            }
            position = text.wordEnd(position);
        }
        return leftOut;
    }

    /** Does a command of the text; false if it would throw an exception. */
    private boolean obeysWord(int position) {
        int a = text.numberAt(position + 1);
        int b = text.numberAt(position + 3);
        int c = text.numberAt(position + 5);
        switch (text.signAt(position)) {
            case 'p':
                return state.trySetGrey(a, b, c);
            case 'b':
                return state.tryFillBox(a, b, c, text.numberAt(position + 7), text.numberAt(position + 9));
            case 't':
                return state.tryChangeThreshold(a, true);
            case 'k':
                return state.tryChangeThreshold(a, false);
            case 'm':
                return state.trySetLeast(a);
            case 's':
                return state.trySpread(a);
            case 'u':
                state.blurGreys(greysBefore);
                return true;
            default:
                state.invertGreys();
                return true;
        }
    }

    // ---- what there is (6 to 14)

    public int about(int what) throws IllegalArgumentException {
        mustBeWithin(what, 0, 10);
        switch (what) {
            case 0:
                return state.columns;
            case 1:
                return state.rows;
            case 2:
                return state.thresholdCount;
            case 3:
                return state.leastSize;
            case 4:
                return present().count;
            case 5:
                trialIslands.survey(state, 1);
                return trialIslands.count;
            case 6:
                return present().cellsOffTheirGrey(state);
            case 7:
                return present().allSides();
            case 8:
                return presentNest().allHoles();
            case 9:
                return state.lineInk;
            default:
                return state.sumOfGreys();
        }
    }

    public int cellOf(int x, int y, int what) throws IndexOutOfBoundsException, IllegalArgumentException {
        mustExist(state.hasCell(x, y));
        mustBeWithin(what, 0, 5);
        int grey = state.greyAt(x, y);
        switch (what) {
            case 0:
                return grey;
            case 1:
                return state.bandOfGrey(grey);
            case 2:
                return present().bandAt(state.cellNumber(x, y));
            case 3:
                return present().islandAt(state.cellNumber(x, y));
            case 4:
                return present().otherSidesAt(state.cellNumber(x, y));
            default:
                return state.distanceToOtherBand(grey);
        }
    }

    public int thresholdAt(int k) throws IndexOutOfBoundsException {
        mustExist(state.hasThreshold(k));
        return state.thresholds[k];
    }

    public int island(int i, int what) throws IndexOutOfBoundsException, IllegalArgumentException {
        Islands found = present();
        mustExist(found.has(i));
        mustBeWithin(what, 0, 8);
        switch (what) {
            case 0:
                return found.firstCell(i);
            case 1:
                return found.size(i);
            case 2:
                return found.bandOf(i);
            case 3:
                return found.sidesToOthers(i);
            case 4:
                return found.sidesAtEdge(i);
            case 5:
                return found.neighbourCount(i);
            case 6:
                return presentNest().holes[i];
            case 7:
                return presentNest().mothers[i];
            default:
                return presentNest().inside[i];
        }
    }

    public int border(int i, int j) throws IndexOutOfBoundsException {
        Islands found = present();
        mustExist(found.has(i) && found.has(j));
        return found.commonSides(i, j);
    }

    public int outline(int i, int what) throws IndexOutOfBoundsException, IllegalArgumentException {
        Islands found = present();
        mustExist(found.has(i));
        mustBeWithin(what, 0, 2);
        contour.follow(found, i, NONE);
        switch (what) {
            case 0:
                return contour.sides;
            case 1:
                return contour.rightTurns;
            default:
                return contour.leftTurns;
        }
    }

    public int outlineWay(int i, int k) throws IndexOutOfBoundsException {
        Islands found = present();
        mustExist(found.has(i));
        contour.follow(found, i, k);
        mustExist(contour.wayAsked != NONE);
        return contour.wayAsked;
    }

    public int band(int b, int what) throws IndexOutOfBoundsException, IllegalArgumentException {
        mustExist(b >= 0 && b <= state.thresholdCount);
        mustBeWithin(what, 0, 3);
        switch (what) {
            case 0:
                return state.hatchings[b];
            case 1:
                return present().cellsOfBand(b);
            case 2:
                return present().islandsOfBand(b);
            default:
                return present().cellsOfBand(b) * state.hatchings[b];
        }
    }

    public int ink() {
        return present().inkNeeded(state);
    }

    // ---- actions and undo (15 to 27)

    public int plate(int columns, int rows) throws IllegalArgumentException {
        mustBeWithin(columns, 1, MOST_COLUMNS);
        mustBeWithin(rows, 1, MOST_ROWS);
        beginAction();
        state.takePlate(columns, rows);
        return state.cellCount();
    }

    public int cell(int x, int y, int grey) throws IndexOutOfBoundsException, IllegalArgumentException {
        mustExist(state.hasCell(x, y));
        mustBeWithin(grey, 0, MOST_GREY);
        beginAction();
        return state.setGrey(x, y, grey);
    }

    public int box(int x0, int x1, int y0, int y1, int grey)
            throws IndexOutOfBoundsException, IllegalArgumentException {
        mustExist(state.hasCell(x0, y0) && state.hasCell(x1, y1));
        mustBeWithin(grey, 0, MOST_GREY);
        if (x1 < x0 || y1 < y0) {
            throw new IllegalArgumentException("the box ends before it begins");
        }
        beginAction();
        return state.fillBox(x0, x1, y0, y1, grey);
    }

    public int threshold(int v, boolean in) throws IllegalArgumentException, IllegalStateException {
        mustBeWithin(v, 1, MOST_GREY);
        if (!state.canChangeThreshold(v, in)) {
            throw new IllegalStateException("the threshold cannot be put in or taken out");
        }
        beginAction();
        return state.changeThreshold(v, in);
    }

    public int share(int n) throws IllegalArgumentException {
        mustBeWithin(n, 0, MOST_THRESHOLDS);
        beginAction();
        return state.shareThresholds(n);
    }

    public int least(int v) throws IllegalArgumentException {
        mustBeWithin(v, 1, MOST_LEAST);
        beginAction();
        int previous = state.leastSize;
        state.leastSize = v;
        return previous;
    }

    public int hatch(int b, int v) throws IndexOutOfBoundsException, IllegalArgumentException {
        mustExist(isWithin(b, 0, HIGHEST_BAND));
        mustBeWithin(v, 0, MOST_INK);
        beginAction();
        int previous = state.hatchings[b];
        state.hatchings[b] = v;
        return previous;
    }

    public int line(int v) throws IllegalArgumentException {
        mustBeWithin(v, 0, MOST_INK);
        beginAction();
        int previous = state.lineInk;
        state.lineInk = v;
        return previous;
    }

    public int blur() {
        beginAction();
        return state.blurGreys(greysBefore);
    }

    public int invert() {
        beginAction();
        state.invertGreys();
        return state.sumOfGreys();
    }

    public int spread(int v) throws IllegalArgumentException {
        mustBeWithin(v, 1, MOST_SPREAD);
        beginAction();
        return state.spreadGreys(v);
    }

    public int noise(long seed, int v) throws IllegalArgumentException {
        mustBeWithin(v, 1, MOST_NOISE);
        beginAction();
        return state.addNoise(seed, v);
    }

    public int undo() throws IllegalStateException {
        if (memory.count == 0) {
            throw new IllegalStateException("no state is remembered");
        }
        forgetFindings();
        memory.takeBack(state);
        return memory.count;
    }

    /** Every action begins with this, behind all that may throw. */
    private void beginAction() {
        memory.remember(state);
        forgetFindings();
    }

    // ---- what would be (28 to 31)

    public int ifLeast(int v, int what) throws IllegalArgumentException {
        mustBeWithin(v, 1, MOST_LEAST);
        mustBeWithin(what, 0, 2);
        trialIslands.survey(state, v);
        switch (what) {
            case 0:
                return trialIslands.count;
            case 1:
                return trialIslands.cellsOffTheirGrey(state);
            default:
                return trialIslands.inkNeeded(state);
        }
    }

    public int leastFor(int n) throws IllegalArgumentException {
        mustBeWithin(n, 1, MOST_CELLS);
        trialIslands.survey(state, 1);
        for (int v = 1; v <= MOST_LEAST; v++) {
            // The smallest island always goes first, so a greater least size does the same merges
            // and then some more: the work goes on where the last size left it.
            trialIslands.mergeBelow(v);
            if (trialIslands.count <= n) {
                return v;
            }
        }
        return NONE;
    }

    public int bestMove(int k) throws IndexOutOfBoundsException {
        mustExist(state.hasThreshold(k));
        int now = state.thresholds[k];
        trial.copyFrom(state);
        int best = now;
        int fewest = MOST_CELLS + 1;
        int nearest = MOST_GREY;
        boolean bandsDiffer = true;
        for (int v = 1; v <= MOST_GREY; v++) {
            // One step up moves only the cells of the grey v - 1 into the band below.
            bandsDiffer = bandsDiffer || state.hasGrey(v - 1);
            if (v != now && state.indexOfThreshold(v) != NONE) {
                continue;
            }
            if (bandsDiffer) {
                // The order of the thresholds is of no account for the bands.
                trial.thresholds[k] = v;
                trialIslands.survey(trial, trial.leastSize);
                bandsDiffer = false;
            }
            int distance = Math.abs(v - now);
            if (trialIslands.count < fewest || trialIslands.count == fewest && distance < nearest) {
                best = v;
                fewest = trialIslands.count;
                nearest = distance;
            }
        }
        return best;
    }

    public int ifCell(int x, int y, int grey, int what)
            throws IndexOutOfBoundsException, IllegalArgumentException {
        mustExist(state.hasCell(x, y));
        mustBeWithin(grey, 0, MOST_GREY);
        mustBeWithin(what, 0, 2);
        trial.copyFrom(state);
        trial.setGrey(x, y, grey);
        trialIslands.survey(trial, trial.leastSize);
        switch (what) {
            case 0:
                return trialIslands.size(trialIslands.islandAt(state.cellNumber(x, y)));
            case 1:
                return trialIslands.count;
            default:
                return trialIslands.cellsOtherThan(present());
        }
    }

    // ---- scripts, simulations (32, 33)

    public int runScript(int n, long script) throws IllegalArgumentException {
        mustBeWithin(n, 1, 2);
        long end = n == 1 ? (long) GROUP : (long) GROUP * GROUP;
        if (script < 0 || script >= end) {
            throw new IllegalArgumentException("the script has too many digits or is negative");
        }
        trial.copyFrom(state);
        for (int index = 0; index < n; index++) {
            boolean last = index == n - 1;
            int group = (int) (last ? script % GROUP : script / GROUP);
            if (!obeysGroup(group)) {
                return index;
            }
        }
        return NONE;
    }

    /** Does a command of a script on the trial state; false if it fails. */
    private boolean obeysGroup(int group) {
        int a = group / 100000 % 100;
        int b = group / 1000 % 100;
        int c = group / 10 % 100;
        int last = group % 10;
        switch (group / 10000000) {
            case 1:
                return last == 0 && trial.trySetGrey(a, b, c);
            case 2:
                return trial.tryFillBox(a, a + last, b, b + last, c);
            case 3:
                int in = group / 10000 % 10;
                return group % 10000 == 0 && in <= 1 && trial.tryChangeThreshold(a, in == 1);
            case 4:
                return group % 100000 == 0 && trial.trySetLeast(a);
            case 5:
                return group % 10000000 == 0 && trial.blurGreys(greysBefore) >= 0;
            case 6:
                return group % 10000000 == 0 && trial.invertGreys();
            case 7:
            case 8:
            case 9:
                trialIslands.survey(trial, trial.leastSize);
                return holdsGroup(group);
            default:
                return false;
        }
    }

    /** Whether a command of a script that only asks succeeds on the islands of the trial state. */
    private boolean holdsGroup(int group) {
        int number = group % 1000;
        switch (group / 10000000) {
            case 7:
                int i = group / 10000 % 1000;
                return group / 1000 % 10 == 0 && trialIslands.has(i)
                        && trialIslands.size(i) >= number;
            case 8:
                return group / 1000 % 10000 == 0 && trialIslands.count <= number;
            default:
                int x = group / 100000 % 100;
                int y = group / 1000 % 100;
                return group / 10 % 100 == 0 && trial.hasCell(x, y)
                        && trialIslands.bandAt(trial.cellNumber(x, y)) == group % 10;
        }
    }

    public int simulate(long seed, int m) throws IllegalArgumentException {
        mustBeWithin(m, 1, MOST_TURNS);
        trial.copyFrom(state);
        long x = seed;
        for (int turn = 0; turn < m; turn++) {
            x = x * FACTOR + ADDEND;
            takeTurn((int) (x >>> 33));
        }
        trialIslands.survey(trial, trial.leastSize);
        return 10000 * trialIslands.count + trialIslands.inkNeeded(trial);
    }

    /** Does a turn on the trial state, or leaves it out if it would throw an exception. */
    private void takeTurn(int r) {
        int q = r / 8;
        int column = q % 12;
        int row = q / 12 % 12;
        switch (r % 8) {
            case 3:
                trial.tryFillBox(column, column + q / 144 % 4, row, row + q / 576 % 4, q / 2304 % 100);
                break;
            case 4:
                trial.tryChangeThreshold(1 + q % 99, q / 128 % 2 == 0);
                break;
            case 5:
                if (q / 32 % 3 == 0) {
                    trial.trySetLeast(1 + q % 30);
                } else {
                    trial.invertGreys();
                }
                break;
            case 6:
                trial.blurGreys(greysBefore);
                break;
            case 7:
                trial.trySpread(1 + q % 49);
                break;
            default:
                trial.trySetGrey(column, row, q / 144 % 100);
                break;
        }
    }

    // ---- save slots (34, 35)

    public int save(int slot) throws IndexOutOfBoundsException {
        mustExist(isWithin(slot, 0, SLOTS - 1));
        slots[slot].copyFrom(state);
        saved[slot] = true;
        return state.sumOfGreys();
    }

    public int restore(int slot) throws IndexOutOfBoundsException, IllegalStateException {
        mustExist(isWithin(slot, 0, SLOTS - 1));
        if (!saved[slot]) {
            throw new IllegalStateException("nothing has been saved in the slot");
        }
        memory.forgetAll();
        forgetFindings();
        state.copyFrom(slots[slot]);
        return state.sumOfGreys();
    }

    // ---- what is found out of the state

    private Islands present() {
        if (!islandsKnown) {
            islands.survey(state, state.leastSize);
            islandsKnown = true;
        }
        return islands;
    }

    private Nest presentNest() {
        Islands found = present();
        if (!nestKnown) {
            nest.explore(found);
            nestKnown = true;
        }
        return nest;
    }

    private void forgetFindings() {
        islandsKnown = false;
        nestKnown = false;
    }

    // ---- arguments

    private static boolean isWithin(int value, int low, int high) {
        return value >= low && value <= high;
    }

    private static void mustBeWithin(int value, int low, int high) {
        if (!isWithin(value, low, high)) {
            throw new IllegalArgumentException("an argument is out of its range");
        }
    }

    private static void mustExist(boolean exists) {
        if (!exists) {
            throw new IndexOutOfBoundsException("there is no such thing");
        }
    }

    /**
     * All that actions change: the plate with its greys, the thresholds, the least size and the ink.
     * The methods that begin with "try" answer false, and change nothing, where the method of the
     * face would throw an exception; the others take arguments that are in range.
     */
    private static final class State {
        private int columns;
        private int rows;
        private final int[] greys = new int[MOST_CELLS];
        private final int[] thresholds = new int[MOST_THRESHOLDS];
        private int thresholdCount;
        private int leastSize;
        private final int[] hatchings = new int[HIGHEST_BAND + 1];
        private int lineInk;

        State() {
            reset(8, 8);
        }

        /** Makes all as in a new object, but for the columns and rows. */
        void reset(int newColumns, int newRows) {
            takePlate(newColumns, newRows);
            thresholds[0] = 50;
            thresholdCount = 1;
            leastSize = 1;
            for (int b = 0; b <= HIGHEST_BAND; b++) {
                hatchings[b] = b;
            }
            lineInk = 1;
        }

        void takePlate(int newColumns, int newRows) {
            columns = newColumns;
            rows = newRows;
            Arrays.fill(greys, 0);
        }

        void copyFrom(State other) {
            columns = other.columns;
            rows = other.rows;
            System.arraycopy(other.greys, 0, greys, 0, MOST_CELLS);
            System.arraycopy(other.thresholds, 0, thresholds, 0, MOST_THRESHOLDS);
            thresholdCount = other.thresholdCount;
            leastSize = other.leastSize;
            System.arraycopy(other.hatchings, 0, hatchings, 0, HIGHEST_BAND + 1);
            lineInk = other.lineInk;
        }

        int cellCount() {
            return columns * rows;
        }

        boolean hasCell(int x, int y) {
            return x >= 0 && x < columns && y >= 0 && y < rows;
        }

        int cellNumber(int x, int y) {
            return y * columns + x;
        }

        int greyAt(int x, int y) {
            return greys[y * columns + x];
        }

        boolean hasGrey(int grey) {
            int cells = cellCount();
            for (int c = 0; c < cells; c++) {
                if (greys[c] == grey) {
                    return true;
                }
            }
            return false;
        }

        int sumOfGreys() {
            int cells = cellCount();
            int sum = 0;
            for (int c = 0; c < cells; c++) {
                sum += greys[c];
            }
            return sum;
        }

        /** Answers the previous grey. */
        int setGrey(int x, int y, int grey) {
            int c = cellNumber(x, y);
            int previous = greys[c];
            greys[c] = grey;
            return previous;
        }

        boolean trySetGrey(int x, int y, int grey) {
            if (!hasCell(x, y) || !isWithin(grey, 0, MOST_GREY)) {
                return false;
            }
            setGrey(x, y, grey);
            return true;
        }

        /** Answers how many cells have another grey then. */
        int fillBox(int x0, int x1, int y0, int y1, int grey) {
            int changed = 0;
            for (int y = y0; y <= y1; y++) {
                for (int x = x0; x <= x1; x++) {
                    if (setGrey(x, y, grey) != grey) {
                        changed++;
                    }
                }
            }
            return changed;
        }

        boolean tryFillBox(int x0, int x1, int y0, int y1, int grey) {
            if (!hasCell(x0, y0) || !hasCell(x1, y1) || x1 < x0 || y1 < y0
                    || !isWithin(grey, 0, MOST_GREY)) {
                return false;
            }
            fillBox(x0, x1, y0, y1, grey);
            return true;
        }

        boolean hasThreshold(int k) {
            return k >= 0 && k < thresholdCount;
        }

        int indexOfThreshold(int v) {
            for (int k = 0; k < thresholdCount; k++) {
                if (thresholds[k] == v) {
                    return k;
                }
            }
            return NONE;
        }

        boolean canChangeThreshold(int v, boolean in) {
            boolean there = indexOfThreshold(v) != NONE;
            return in ? !there && thresholdCount < MOST_THRESHOLDS : there;
        }

        /** Answers how many thresholds there are then. */
        int changeThreshold(int v, boolean in) {
            if (in) {
                putThreshold(v);
            } else {
                takeThreshold(v);
            }
            return thresholdCount;
        }

        boolean tryChangeThreshold(int v, boolean in) {
            if (!isWithin(v, 1, MOST_GREY) || !canChangeThreshold(v, in)) {
                return false;
            }
            changeThreshold(v, in);
            return true;
        }

        private void putThreshold(int v) {
            if (thresholdCount >= MOST_THRESHOLDS) {
                return;
            }
            int place = thresholdCount;
            while (place > 0 && thresholds[place - 1] > v) {
                thresholds[place] = thresholds[place - 1];
                place--;
            }
            thresholds[place] = v;
            thresholdCount++;
        }

        private void takeThreshold(int v) {
            int left = 0;
            for (int k = 0; k < thresholdCount; k++) {
                if (thresholds[k] != v) {
                    thresholds[left] = thresholds[k];
                    left++;
                }
            }
            thresholdCount = left;
        }

        /** Answers how many thresholds there are then. */
        int shareThresholds(int n) {
            thresholdCount = 0;
            for (int k = 1; k <= n; k++) {
                int v = leastAbove(cellCount() * k / (n + 1));
                // The shares grow, so a value that is there already is the last one.
                if (indexOfThreshold(v) == NONE) {
                    putThreshold(v);
                }
            }
            return thresholdCount;
        }

        /** The least threshold below which so many cells lie. */
        private int leastAbove(int wanted) {
            for (int v = 1; v < MOST_GREY; v++) {
                if (cellsBelow(v) >= wanted) {
                    return v;
                }
            }
            return MOST_GREY;
        }

        private int cellsBelow(int v) {
            int cells = cellCount();
            int below = 0;
            for (int c = 0; c < cells; c++) {
                if (greys[c] < v) {
                    below++;
                }
            }
            return below;
        }

        int bandOfGrey(int grey) {
            int band = 0;
            for (int k = 0; k < thresholdCount; k++) {
                if (thresholds[k] <= grey) {
                    band++;
                }
            }
            return band;
        }

        int distanceToOtherBand(int grey) {
            int least = NONE;
            for (int k = 0; k < thresholdCount; k++) {
                int t = thresholds[k];
                int distance = t <= grey ? grey - t + 1 : t - grey;
                if (least == NONE || distance < least) {
                    least = distance;
                }
            }
            return least;
        }

        boolean trySetLeast(int v) {
            if (!isWithin(v, 1, MOST_LEAST)) {
                return false;
            }
            leastSize = v;
            return true;
        }

        /** Answers how many cells have another grey then; the greys as they were are put into before. */
        int blurGreys(int[] before) {
            System.arraycopy(greys, 0, before, 0, MOST_CELLS);
            int changed = 0;
            for (int y = 0; y < rows; y++) {
                for (int x = 0; x < columns; x++) {
                    int blurred = blurredGrey(before, x, y);
                    if (setGrey(x, y, blurred) != blurred) {
                        changed++;
                    }
                }
            }
            return changed;
        }

        private int blurredGrey(int[] before, int x, int y) {
            int c = cellNumber(x, y);
            int sum = 4 * before[c];
            int parts = 4;
            if (x > 0) {
                sum += before[c - 1];
                parts++;
            }
            if (x < columns - 1) {
                sum += before[c + 1];
                parts++;
            }
            if (y > 0) {
                sum += before[c - columns];
                parts++;
            }
            if (y < rows - 1) {
                sum += before[c + columns];
                parts++;
            }
            return sum / parts;
        }

        /** Answers true: it never fails. */
        boolean invertGreys() {
            int cells = cellCount();
            for (int c = 0; c < cells; c++) {
                greys[c] = MOST_GREY - greys[c];
            }
            return true;
        }

        /** Answers how many cells have another grey then. */
        int spreadGreys(int v) {
            int cells = cellCount();
            int changed = 0;
            for (int c = 0; c < cells; c++) {
                int spreadGrey = spreadOut(greys[c], v);
                if (spreadGrey != greys[c]) {
                    changed++;
                }
                greys[c] = spreadGrey;
            }
            return changed;
        }

        private static int spreadOut(int grey, int v) {
            if (grey < v) {
                return 0;
            }
            if (grey > MOST_GREY - v) {
                return MOST_GREY;
            }
            return (grey - v) * MOST_GREY / (MOST_GREY - 2 * v);
        }

        boolean trySpread(int v) {
            if (!isWithin(v, 1, MOST_SPREAD)) {
                return false;
            }
            spreadGreys(v);
            return true;
        }

        /** Answers how many cells have another grey then. */
        int addNoise(long seed, int v) {
            int cells = cellCount();
            int changed = 0;
            long x = seed;
            for (int c = 0; c < cells; c++) {
                x = x * FACTOR + ADDEND;
                int noisy = greys[c] + (int) (x >>> 33) % (2 * v + 1) - v;
                noisy = Math.max(0, Math.min(MOST_GREY, noisy));
                if (noisy != greys[c]) {
                    changed++;
                }
                greys[c] = noisy;
            }
            return changed;
        }
    }

    /** The states that are remembered, in a ring: next is the place of the next one. */
    private static final class Memory {
        private final State[] states = new State[MOST_REMEMBERED];
        private int count = 0;
        private int next = 0;

        Memory() {
            for (int k = 0; k < MOST_REMEMBERED; k++) {
                states[k] = new State();
            }
        }

        void remember(State state) {
            states[next].copyFrom(state);
            next = (next + 1) % MOST_REMEMBERED;
            count = Math.min(count + 1, MOST_REMEMBERED);
        }

        /** Takes back the last action; there must be one. */
        void takeBack(State state) {
            next = (next + MOST_REMEMBERED - 1) % MOST_REMEMBERED;
            state.copyFrom(states[next]);
            count--;
        }

        void forgetAll() {
            count = 0;
        }
    }

    /** The text: words of one sign with the numbers that belong to it, the first of them E. */
    private static final class Text {
        private final int[] signs = new int[MOST_SIGNS];
        private int length = 0;

        boolean isFull() {
            return length >= MOST_SIGNS;
        }

        int add(int sign) {
            if (!isFull()) {
                signs[length] = sign;
                length++;
            }
            return length;
        }

        int empty() {
            int previous = length;
            length = 0;
            return previous;
        }

        /** The sign at a place, 0 behind the text. */
        int signAt(int position) {
            return position >= 0 && position < length ? signs[position] : 0;
        }

        /** The number of two digits at a place; of no use where none stands. */
        int numberAt(int position) {
            return 10 * (signAt(position) - '0') + signAt(position + 1) - '0';
        }

        /** The place behind the word that begins at this one. */
        int wordEnd(int position) {
            return position + 1 + 2 * Math.max(0, numbersOf(signAt(position)));
        }

        int firstError() {
            int position = 0;
            for (int word = 0; word <= MOST_SIGNS; word++) {
                if (position >= length && word > 0) {
                    return NONE;
                }
                int error = errorInWord(position, word == 0);
                if (error != NONE) {
                    return error;
                }
                position = wordEnd(position);
            }
            return NONE;
        }

        private int errorInWord(int position, boolean head) {
            int kind = signAt(position);
            if (position >= length || head != (kind == 'E') || numbersOf(kind) == NONE) {
                return position;
            }
            int end = wordEnd(position);
            for (int place = position + 1; place < end; place++) {
                if (place >= length || !isDigitAllowed(kind, position, place)) {
                    return place;
                }
            }
            return NONE;
        }

        /** Whether a number that is allowed begins with the digits up to this place. */
        private boolean isDigitAllowed(int kind, int position, int place) {
            int digit = signs[place] - '0';
            if (!isWithin(digit, 0, 9)) {
                return false;
            }
            int order = place - position - 1;
            int lowest = lowestNumber(kind);
            int highest = highestNumber(kind, order / 2);
            if (order % 2 == 0) {
                return isWithin(digit, lowest / 10, highest / 10);
            }
            return isWithin(numberAt(place - 1), lowest, highest);
        }

        /** How many numbers stand behind a sign; NONE if no word begins with it. */
        private static int numbersOf(int kind) {
            switch (kind) {
                case 'E':
                    return 2;
                case 'p':
                    return 3;
                case 'b':
                    return 5;
                case 't':
                case 'k':
                case 'm':
                case 's':
                    return 1;
                case 'u':
                case 'i':
                    return 0;
                default:
                    return NONE;
            }
        }

        private static int lowestNumber(int kind) {
            return kind == 'p' || kind == 'b' ? 0 : 1;
        }

        private static int highestNumber(int kind, int which) {
            switch (kind) {
                case 'E':
                    return MOST_COLUMNS;
                case 'p':
                    return which < 2 ? MOST_COLUMNS - 1 : MOST_GREY;
                case 'b':
                    return which < 4 ? MOST_COLUMNS - 1 : MOST_GREY;
                case 'm':
                    return MOST_LEAST;
                case 's':
                    return MOST_SPREAD;
                default:
                    return MOST_GREY;
            }
        }
    }

    /**
     * The islands of a state. While they are merged, an island is called by its first cell; when
     * they are told, it is called by its number.
     */
    private static final class Islands {
        /** Stands for the first cell of a cell that is in the queue. */
        private static final int QUEUED = -2;

        private int columns = 1;
        private int rows = 1;
        private int cells = 1;
        private int count = 0;
        private final int[] bands = new int[MOST_CELLS];
        /** For each cell the first cell of its island. */
        private final int[] firsts = new int[MOST_CELLS];
        /** For each first cell the cells of its island. */
        private final int[] sizes = new int[MOST_CELLS];
        /** For each first cell the sides in common with the island that was measured last. */
        private final int[] borders = new int[MOST_CELLS];
        private final int[] queue = new int[MOST_CELLS];
        /** For each number the first cell, and for each first cell the number. */
        private final int[] firstOf = new int[MOST_CELLS];
        private final int[] numberOf = new int[MOST_CELLS];

        /** Finds the islands of a state as they would be with this least size. */
        void survey(State state, int least) {
            columns = state.columns;
            rows = state.rows;
            cells = state.cellCount();
            count = 0;
            for (int c = 0; c < cells; c++) {
                bands[c] = state.bandOfGrey(state.greys[c]);
                firsts[c] = NONE;
            }
            for (int c = 0; c < cells; c++) {
                if (firsts[c] == NONE) {
                    gather(c);
                }
            }
            mergeBelow(least);
            giveNumbers();
        }

        /** Merges as long as an island is smaller than the least size; numbers are not given. */
        void mergeBelow(int least) {
            for (int round = 0; round < MOST_CELLS && count > 1; round++) {
                int small = smallestBelow(least);
                int taker = small == NONE ? NONE : takerOf(small);
                if (taker == NONE) {
                    return;
                }
                int band = bands[taker];
                for (int c = small; c < cells; c++) {
                    if (firsts[c] == small) {
                        bands[c] = band;
                    }
                }
                gather(small);
            }
        }

        private int smallestBelow(int least) {
            int smallest = NONE;
            for (int c = 0; c < cells; c++) {
                if (firsts[c] == c && sizes[c] < least
                        && (smallest == NONE || sizes[c] < sizes[smallest])) {
                    smallest = c;
                }
            }
            return smallest;
        }

        /** The island whose band the one with this first cell gets. */
        private int takerOf(int small) {
            measureBorders(small);
            int best = NONE;
            for (int c = 0; c < cells; c++) {
                if (borders[c] > 0 && (best == NONE || isBetterTaker(c, best, bands[small]))) {
                    best = c;
                }
            }
            return best;
        }

        private boolean isBetterTaker(int one, int other, int band) {
            if (borders[one] != borders[other]) {
                return borders[one] > borders[other];
            }
            int distance = Math.abs(bands[one] - band);
            int otherDistance = Math.abs(bands[other] - band);
            if (distance != otherDistance) {
                return distance < otherDistance;
            }
            return bands[one] < bands[other];
        }

        private void measureBorders(int first) {
            Arrays.fill(borders, 0);
            for (int c = first; c < cells; c++) {
                if (firsts[c] == first) {
                    for (int way = 0; way < WAYS; way++) {
                        int n = neighbour(c, way);
                        if (n != NONE && firsts[n] != first) {
                            borders[firsts[n]]++;
                        }
                    }
                }
            }
        }

        /** Makes one island of all cells that hang together with this one; the count follows. */
        private void gather(int start) {
            int band = bands[start];
            int lowest = start;
            int end = enqueue(start, 0);
            for (int k = 0; k < end && k < MOST_CELLS; k++) {
                int c = queue[k];
                lowest = Math.min(lowest, c);
                for (int way = 0; way < WAYS; way++) {
                    int n = neighbour(c, way);
                    if (n != NONE && bands[n] == band && firsts[n] != QUEUED) {
                        end = enqueue(n, end);
                    }
                }
            }
            for (int k = 0; k < end; k++) {
                firsts[queue[k]] = lowest;
            }
            sizes[lowest] = end;
            count++;
        }

        private int enqueue(int c, int end) {
            if (end >= MOST_CELLS) {
                return end;
            }
            if (firsts[c] == c) {
                // The island that was called by this cell is no longer one of its own.
                count--;
            }
            firsts[c] = QUEUED;
            queue[end] = c;
            return end + 1;
        }

        private void giveNumbers() {
            int number = 0;
            for (int c = 0; c < cells; c++) {
                if (firsts[c] == c) {
                    firstOf[number] = c;
                    numberOf[c] = number;
                    number++;
                }
            }
        }

        /** The cell next to a cell; NONE beyond the edge. */
        private int neighbour(int c, int way) {
            switch (way) {
                case 0:
                    return c % columns < columns - 1 ? c + 1 : NONE;
                case 1:
                    return c + columns < cells ? c + columns : NONE;
                case 2:
                    return c % columns > 0 ? c - 1 : NONE;
                default:
                    return c >= columns ? c - columns : NONE;
            }
        }

        boolean isOnPlate(int x, int y) {
            return x >= 0 && x < columns && y >= 0 && y < rows;
        }

        boolean isAtEdge(int c) {
            int x = c % columns;
            int y = c / columns;
            return x == 0 || x == columns - 1 || y == 0 || y == rows - 1;
        }

        boolean has(int i) {
            return i >= 0 && i < count;
        }

        int islandAt(int c) {
            return numberOf[firsts[c]];
        }

        boolean isFirstCell(int c) {
            return firsts[c] == c;
        }

        int bandAt(int c) {
            return bands[c];
        }

        int firstCell(int i) {
            return firstOf[i];
        }

        int size(int i) {
            return sizes[firstOf[i]];
        }

        int bandOf(int i) {
            return bands[firstOf[i]];
        }

        int otherSidesAt(int c) {
            int sides = 0;
            for (int way = 0; way < WAYS; way++) {
                int n = neighbour(c, way);
                if (n != NONE && firsts[n] != firsts[c]) {
                    sides++;
                }
            }
            return sides;
        }

        int sidesToOthers(int i) {
            measureBorders(firstOf[i]);
            int sides = 0;
            for (int c = 0; c < cells; c++) {
                sides += borders[c];
            }
            return sides;
        }

        int neighbourCount(int i) {
            measureBorders(firstOf[i]);
            int neighbours = 0;
            for (int c = 0; c < cells; c++) {
                if (borders[c] > 0) {
                    neighbours++;
                }
            }
            return neighbours;
        }

        int commonSides(int i, int j) {
            measureBorders(firstOf[i]);
            return borders[firstOf[j]];
        }

        int sidesAtEdge(int i) {
            int sides = 0;
            for (int c = firstOf[i]; c < cells; c++) {
                if (firsts[c] == firstOf[i]) {
                    for (int way = 0; way < WAYS; way++) {
                        if (neighbour(c, way) == NONE) {
                            sides++;
                        }
                    }
                }
            }
            return sides;
        }

        /** The sides between two islands of the whole plate. */
        int allSides() {
            int twice = 0;
            for (int c = 0; c < cells; c++) {
                twice += otherSidesAt(c);
            }
            return twice / 2;
        }

        int cellsOffTheirGrey(State state) {
            int off = 0;
            for (int c = 0; c < cells; c++) {
                if (bands[c] != state.bandOfGrey(state.greys[c])) {
                    off++;
                }
            }
            return off;
        }

        /** How many cells have another band than there, on a plate of the same columns and rows. */
        int cellsOtherThan(Islands there) {
            int other = 0;
            for (int c = 0; c < cells; c++) {
                if (bands[c] != there.bands[c]) {
                    other++;
                }
            }
            return other;
        }

        int cellsOfBand(int b) {
            int found = 0;
            for (int c = 0; c < cells; c++) {
                if (bands[c] == b) {
                    found++;
                }
            }
            return found;
        }

        int islandsOfBand(int b) {
            int found = 0;
            for (int i = 0; i < count; i++) {
                if (bandOf(i) == b) {
                    found++;
                }
            }
            return found;
        }

        int inkNeeded(State state) {
            int needed = state.lineInk * allSides();
            for (int c = 0; c < cells; c++) {
                needed += state.hatchings[bands[c]];
            }
            return needed;
        }
    }

    /** The holes of all islands and what lies in them. */
    private static final class Nest {
        /** A hole has at least one cell, and so many cells are around it. */
        private static final int FEWEST_AROUND_HOLE = 8;

        private final int[] holes = new int[MOST_CELLS];
        private final int[] mothers = new int[MOST_CELLS];
        /** For each island how many islands lie in it. */
        private final int[] inside = new int[MOST_CELLS];
        private final int[] seen = new int[MOST_CELLS];
        private final int[] queue = new int[MOST_CELLS];

        void explore(Islands islands) {
            Arrays.fill(holes, 0);
            Arrays.fill(mothers, NONE);
            Arrays.fill(inside, 0);
            for (int i = 0; i < islands.count; i++) {
                if (islands.size(i) >= FEWEST_AROUND_HOLE) {
                    findHoles(islands, i);
                }
            }
        }

        int allHoles() {
            int sum = 0;
            for (int i = 0; i < MOST_CELLS; i++) {
                sum += holes[i];
            }
            return sum;
        }

        private void findHoles(Islands islands, int i) {
            Arrays.fill(seen, 0);
            for (int c = 0; c < islands.cells; c++) {
                if (seen[c] == 0 && islands.islandAt(c) != i) {
                    int end = gatherAround(islands, i, c);
                    if (!reachesEdge(islands, end)) {
                        takeHole(islands, i, end);
                    }
                }
            }
        }

        /** Puts into the queue all cells not of the island that hang together, across too. */
        private int gatherAround(Islands islands, int i, int start) {
            seen[start] = 1;
            queue[0] = start;
            int end = 1;
            for (int k = 0; k < end && k < MOST_CELLS; k++) {
                int column = queue[k] % islands.columns;
                int row = queue[k] / islands.columns;
                for (int y = row - 1; y <= row + 1; y++) {
                    for (int x = column - 1; x <= column + 1; x++) {
                        int c = y * islands.columns + x;
                        if (islands.isOnPlate(x, y) && seen[c] == 0 && islands.islandAt(c) != i
                                && end < MOST_CELLS) {
                            seen[c] = 1;
                            queue[end] = c;
                            end++;
                        }
                    }
                }
            }
            return end;
        }

        private boolean reachesEdge(Islands islands, int end) {
            for (int k = 0; k < end; k++) {
                if (islands.isAtEdge(queue[k])) {
                    return true;
                }
            }
            return false;
        }

        private void takeHole(Islands islands, int i, int end) {
            holes[i]++;
            for (int k = 0; k < end; k++) {
                int c = queue[k];
                if (islands.isFirstCell(c)) {
                    int child = islands.islandAt(c);
                    inside[i]++;
                    // The islands come by their numbers, so of equal ones the lowest stays.
                    if (mothers[child] == NONE || islands.size(i) < islands.size(mothers[child])) {
                        mothers[child] = i;
                    }
                }
            }
        }
    }

    /** The outline of an island. */
    private static final class Outline {
        private static final int EAST = 0;

        private int sides = 0;
        private int rightTurns = 0;
        private int leftTurns = 0;
        /** The way of the side that was asked for; NONE if there is none. */
        private int wayAsked = NONE;

        /** Follows the outline of the island i, and remembers the way of the side that is asked for. */
        void follow(Islands islands, int i, int asked) {
            sides = 0;
            rightTurns = 0;
            leftTurns = 0;
            wayAsked = NONE;
            int startX = islands.firstCell(i) % islands.columns;
            int startY = islands.firstCell(i) / islands.columns;
            int x = startX;
            int y = startY;
            int way = EAST;
            for (int side = 0; side < WAYS * MOST_CELLS; side++) {
                if (side == asked) {
                    wayAsked = way;
                }
                sides++;
                x += eastOf(way);
                y += southOf(way);
                way = turned(islands, i, x, y, way);
                if (x == startX && y == startY && way == EAST) {
                    return;
                }
            }
        }

        /** The way behind the corner, which is the upper left one of the cell x, y. */
        private int turned(Islands islands, int i, int x, int y, int way) {
            int leftWay = (way + 3) % WAYS;
            if (!isOfIsland(islands, i, x, y, way)) {
                rightTurns++;
                return (way + 1) % WAYS;
            }
            // What is ahead on the left is ahead on the right for who goes left.
            if (isOfIsland(islands, i, x, y, leftWay)) {
                leftTurns++;
                return leftWay;
            }
            return way;
        }

        /** Whether the cell that is ahead on the right of the corner is of the island. */
        private static boolean isOfIsland(Islands islands, int i, int cornerX, int cornerY, int way) {
            int x = way == 1 || way == 2 ? cornerX - 1 : cornerX;
            int y = way == 2 || way == 3 ? cornerY - 1 : cornerY;
            return islands.isOnPlate(x, y) && islands.islandAt(y * islands.columns + x) == i;
        }

        private static int eastOf(int way) {
            return way == 0 ? 1 : way == 2 ? -1 : 0;
        }

        private static int southOf(int way) {
            return way == 1 ? 1 : way == 3 ? -1 : 0;
        }
    }
}
