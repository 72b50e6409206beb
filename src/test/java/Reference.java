import java.util.ArrayDeque;
import java.util.ArrayList;
import java.util.Arrays;
import java.util.Comparator;
import java.util.Deque;
import java.util.HashSet;
import java.util.List;
import java.util.Set;
import java.util.TreeSet;
import java.util.regex.Matcher;
import java.util.regex.Pattern;

/**
 * The document once more, written as plainly and as slowly as it reads, with the Java library and
 * other ways of working than the class has: everything is found anew for every question.
 */
final class Reference {
    private static final Pattern PLATE = Pattern.compile(
            "E(0[1-9]|1[0-2])(0[1-9]|1[0-2])("
            + "p(0[0-9]|1[01])(0[0-9]|1[01])[0-9][0-9]"
            + "|b(0[0-9]|1[01])(0[0-9]|1[01])(0[0-9]|1[01])(0[0-9]|1[01])[0-9][0-9]"
            + "|[tk](0[1-9]|[1-9][0-9])"
            + "|m(0[1-9]|[12][0-9]|30)"
            + "|s(0[1-9]|[1-4][0-9])"
            + "|u|i)*", Pattern.DOTALL);

    /** A state is never changed; what changes it makes another one. */
    static final class Plate {
        int columns = 8;
        int rows = 8;
        int[][] greys = new int[8][8];
        TreeSet<Integer> thresholds = new TreeSet<>(List.of(50));
        int least = 1;
        int[] hatch = {0, 1, 2, 3, 4, 5};
        int line = 1;

        Plate copy() {
            Plate p = new Plate();
            p.columns = columns;
            p.rows = rows;
            p.greys = new int[rows][];
            for (int y = 0; y < rows; y++) {
                p.greys[y] = greys[y].clone();
            }
            p.thresholds = new TreeSet<>(thresholds);
            p.least = least;
            p.hatch = hatch.clone();
            p.line = line;
            return p;
        }

        int sum() {
            return Arrays.stream(greys).flatMapToInt(Arrays::stream).sum();
        }

        int differences(Plate other) {
            int n = 0;
            for (int y = 0; y < rows; y++) {
                for (int x = 0; x < columns; x++) {
                    n += greys[y][x] == other.greys[y][x] ? 0 : 1;
                }
            }
            return n;
        }

        int bandOf(int grey) {
            return thresholds.headSet(grey, true).size();
        }
    }

    /** An island as a set of cells. */
    static final class Isle {
        TreeSet<Integer> cells = new TreeSet<>();
        int band;

        int first() {
            return cells.first();
        }
    }

    private String text = "";
    private Plate now = new Plate();
    private Deque<Plate> past = new ArrayDeque<>();
    private final Plate[] slots = new Plate[2];

    private static IndexOutOfBoundsException none() {
        return new IndexOutOfBoundsException();
    }

    private static IllegalArgumentException bad() {
        return new IllegalArgumentException();
    }

    private static void need(boolean there) {
        if (!there) {
            throw none();
        }
    }

    private static void range(int v, int low, int high) {
        if (v < low || v > high) {
            throw bad();
        }
    }

    // ---- text

    int append(int c) {
        range(c, 0, 255);
        if (text.length() == 120) {
            throw new IllegalStateException();
        }
        text += (char) c;
        return text.length();
    }

    int clearText() {
        int n = text.length();
        text = "";
        return n;
    }

    int errorPosition() {
        for (int end = 1; end <= text.length(); end++) {
            Matcher m = PLATE.matcher(text.substring(0, end));
            if (!m.matches() && !m.hitEnd()) {
                return end - 1;
            }
        }
        return PLATE.matcher(text).matches() ? -1 : text.length();
    }

    int load() {
        if (errorPosition() != -1) {
            throw new IllegalStateException();
        }
        now = new Plate();
        now.columns = Integer.parseInt(text.substring(1, 3));
        now.rows = Integer.parseInt(text.substring(3, 5));
        now.greys = new int[now.rows][now.columns];
        past.clear();
        slots[0] = null;
        slots[1] = null;
        int left = 0;
        Matcher m = Pattern.compile("([a-z])([0-9]*)").matcher(text.substring(5));
        while (m.find()) {
            int[] v = new int[m.group(2).length() / 2];
            for (int k = 0; k < v.length; k++) {
                v[k] = Integer.parseInt(m.group(2).substring(2 * k, 2 * k + 2));
            }
            Plate next = now.copy();
            if (succeeds(() -> word(next, m.group(1).charAt(0), v))) {
                now = next;
            } else {
                left++;
            }
        }
        return left;
    }

    private static void word(Plate p, char kind, int[] v) {
        switch (kind) {
            case 'p' -> cell(p, v[0], v[1], v[2]);
            case 'b' -> box(p, v[0], v[1], v[2], v[3], v[4]);
            case 't' -> threshold(p, v[0], true);
            case 'k' -> threshold(p, v[0], false);
            case 'm' -> least(p, v[0]);
            case 'u' -> blur(p);
            case 'i' -> invert(p);
            default -> spread(p, v[0]);
        }
    }

    private static boolean succeeds(Runnable work) {
        try {
            work.run();
            return true;
        } catch (IndexOutOfBoundsException | IllegalArgumentException | IllegalStateException e) {
            return false;
        }
    }

    // ---- islands

    private static List<Integer> neighbours(Plate p, int c) {
        List<Integer> found = new ArrayList<>();
        for (int n = 0; n < p.columns * p.rows; n++) {
            int dx = Math.abs(n % p.columns - c % p.columns);
            int dy = Math.abs(n / p.columns - c / p.columns);
            if (dx + dy == 1) {
                found.add(n);
            }
        }
        return found;
    }

    static int[] greyBands(Plate p) {
        int[] bands = new int[p.columns * p.rows];
        for (int c = 0; c < bands.length; c++) {
            bands[c] = p.bandOf(p.greys[c / p.columns][c % p.columns]);
        }
        return bands;
    }

    private static List<Isle> isles(Plate p, int[] bands) {
        List<Isle> found = new ArrayList<>();
        Set<Integer> done = new HashSet<>();
        for (int c = 0; c < bands.length; c++) {
            if (done.contains(c)) {
                continue;
            }
            Isle isle = new Isle();
            isle.band = bands[c];
            spreadOver(p, bands, c, isle.cells);
            done.addAll(isle.cells);
            found.add(isle);
        }
        return found;
    }

    private static void spreadOver(Plate p, int[] bands, int c, Set<Integer> cells) {
        if (cells.add(c)) {
            for (int n : neighbours(p, c)) {
                if (bands[n] == bands[c]) {
                    spreadOver(p, bands, n, cells);
                }
            }
        }
    }

    static int common(Plate p, Isle a, Isle b) {
        int sides = 0;
        if (a.first() != b.first()) {
            for (int c : a.cells) {
                for (int n : neighbours(p, c)) {
                    sides += b.cells.contains(n) ? 1 : 0;
                }
            }
        }
        return sides;
    }

    static int[] bands(Plate p, int least) {
        int[] bands = greyBands(p);
        while (true) {
            List<Isle> isles = isles(p, bands);
            Isle small = isles.stream().min(Comparator.comparingInt((Isle i) -> i.cells.size())
                    .thenComparingInt(Isle::first)).get();
            if (isles.size() == 1 || small.cells.size() >= least) {
                return bands;
            }
            Isle taker = isles.stream().filter(i -> common(p, small, i) > 0)
                    .min(Comparator.comparingInt((Isle i) -> -common(p, small, i))
                    .thenComparingInt(i -> Math.abs(i.band - small.band))
                    .thenComparingInt(i -> i.band)
                    .thenComparingInt(Isle::first)).get();
            for (int c : small.cells) {
                bands[c] = taker.band;
            }
        }
    }

    static List<Isle> isles(Plate p) {
        return isles(p, bands(p, p.least));
    }

    /** The holes of an island, each a set of cells: what cannot be reached from the edge is in one. */
    static List<Set<Integer>> holes(Plate p, Isle isle) {
        int cells = p.columns * p.rows;
        int[] group = new int[cells];
        for (int c = 0; c < cells; c++) {
            group[c] = c;
        }
        for (boolean more = true; more;) {
            more = false;
            for (int a = 0; a < cells; a++) {
                for (int b = 0; b < cells; b++) {
                    boolean near = Math.abs(a % p.columns - b % p.columns) <= 1
                            && Math.abs(a / p.columns - b / p.columns) <= 1;
                    if (near && !isle.cells.contains(a) && !isle.cells.contains(b)
                            && group[a] < group[b]) {
                        group[b] = group[a];
                        more = true;
                    }
                }
            }
        }
        List<Set<Integer>> found = new ArrayList<>();
        for (int g = 0; g < cells; g++) {
            Set<Integer> hole = new TreeSet<>();
            boolean edge = false;
            for (int c = 0; c < cells; c++) {
                if (group[c] == g && !isle.cells.contains(c)) {
                    hole.add(c);
                    int x = c % p.columns;
                    int y = c / p.columns;
                    edge |= x == 0 || y == 0 || x == p.columns - 1 || y == p.rows - 1;
                }
            }
            if (!hole.isEmpty() && !edge) {
                found.add(hole);
            }
        }
        return found;
    }

    static boolean liesIn(Plate p, Isle child, Isle mother) {
        return holes(p, mother).stream().anyMatch(h -> h.containsAll(child.cells));
    }

    static int mother(Plate p, List<Isle> isles, int i) {
        int best = -1;
        for (int m = 0; m < isles.size(); m++) {
            if (m != i && liesIn(p, isles.get(i), isles.get(m))
                    && (best < 0 || isles.get(m).cells.size() < isles.get(best).cells.size())) {
                best = m;
            }
        }
        return best;
    }

    /** The ways of the outline's sides, and behind them the turns: 1 right, 3 left, 0 none. */
    static List<int[]> outlineOf(Plate p, Isle isle) {
        int[] dx = {1, 0, -1, 0};
        int[] dy = {0, 1, 0, -1};
        List<int[]> sides = new ArrayList<>();
        // The cell on the right of the side; the side itself is told by it and the way.
        int x = isle.first() % p.columns;
        int y = isle.first() / p.columns;
        int way = 0;
        do {
            int left = (way + 3) % 4;
            int ax = x + dx[way];
            int ay = y + dy[way];
            int turn;
            int was = way;
            if (!of(p, isle, ax, ay)) {
                turn = 1;
                way = (way + 1) % 4;
            } else if (of(p, isle, ax + dx[left], ay + dy[left])) {
                turn = 3;
                x = ax + dx[left];
                y = ay + dy[left];
                way = left;
            } else {
                turn = 0;
                x = ax;
                y = ay;
            }
            sides.add(new int[] {was, turn});
        } while (y * p.columns + x != isle.first() || way != 0);
        return sides;
    }

    private static boolean of(Plate p, Isle isle, int x, int y) {
        return x >= 0 && x < p.columns && y >= 0 && y < p.rows && isle.cells.contains(y * p.columns + x);
    }

    static int off(Plate p, int least) {
        int[] grey = greyBands(p);
        int[] merged = bands(p, least);
        return unlike(grey, merged);
    }

    private static int unlike(int[] a, int[] b) {
        int n = 0;
        for (int c = 0; c < a.length; c++) {
            n += a[c] == b[c] ? 0 : 1;
        }
        return n;
    }

    static int sides(Plate p, List<Isle> isles) {
        int n = 0;
        for (int i = 0; i < isles.size(); i++) {
            for (int j = 0; j < i; j++) {
                n += common(p, isles.get(i), isles.get(j));
            }
        }
        return n;
    }

    static int ink(Plate p) {
        List<Isle> isles = isles(p);
        return isles.stream().mapToInt(i -> i.cells.size() * p.hatch[i.band]).sum()
                + p.line * sides(p, isles);
    }

    // ---- what there is

    int about(int what) {
        range(what, 0, 10);
        return switch (what) {
            case 0 -> now.columns;
            case 1 -> now.rows;
            case 2 -> now.thresholds.size();
            case 3 -> now.least;
            case 4 -> isles(now).size();
            case 5 -> isles(now, greyBands(now)).size();
            case 6 -> off(now, now.least);
            case 7 -> sides(now, isles(now));
            case 8 -> isles(now).stream().mapToInt(i -> holes(now, i).size()).sum();
            case 9 -> now.line;
            default -> now.sum();
        };
    }

    private static boolean has(Plate p, int x, int y) {
        return x >= 0 && y >= 0 && x < p.columns && y < p.rows;
    }

    int cellOf(int x, int y, int what) {
        need(has(now, x, y));
        range(what, 0, 5);
        int c = y * now.columns + x;
        int grey = now.greys[y][x];
        int[] bands = bands(now, now.least);
        List<Isle> isles = isles(now);
        return switch (what) {
            case 0 -> grey;
            case 1 -> now.bandOf(grey);
            case 2 -> bands[c];
            case 3 -> numberOf(isles, c);
            case 4 -> (int) neighbours(now, c).stream()
                    .filter(n -> numberOf(isles, n) != numberOf(isles, c)).count();
            default -> steps(now, grey);
        };
    }

    private static int numberOf(List<Isle> isles, int c) {
        for (int i = 0; i < isles.size(); i++) {
            if (isles.get(i).cells.contains(c)) {
                return i;
            }
        }
        return -1;
    }

    private static int steps(Plate p, int grey) {
        for (int d = 1; d < 100; d++) {
            if (grey - d >= 0 && p.bandOf(grey - d) != p.bandOf(grey)
                    || grey + d <= 99 && p.bandOf(grey + d) != p.bandOf(grey)) {
                return d;
            }
        }
        return -1;
    }

    int thresholdAt(int k) {
        need(k >= 0 && k < now.thresholds.size());
        return new ArrayList<>(now.thresholds).get(k);
    }

    int island(int i, int what) {
        List<Isle> isles = isles(now);
        need(i >= 0 && i < isles.size());
        range(what, 0, 8);
        Isle isle = isles.get(i);
        int edge = 0;
        for (int c : isle.cells) {
            edge += 4 - neighbours(now, c).size();
        }
        return switch (what) {
            case 0 -> isle.first();
            case 1 -> isle.cells.size();
            case 2 -> isle.band;
            case 3 -> isles.stream().mapToInt(j -> common(now, isle, j)).sum();
            case 4 -> edge;
            case 5 -> (int) isles.stream().filter(j -> common(now, isle, j) > 0).count();
            case 6 -> holes(now, isle).size();
            case 7 -> mother(now, isles, i);
            default -> (int) isles.stream().filter(j -> j != isle && liesIn(now, j, isle)).count();
        };
    }

    int border(int i, int j) {
        List<Isle> isles = isles(now);
        need(i >= 0 && i < isles.size());
        need(j >= 0 && j < isles.size());
        return common(now, isles.get(i), isles.get(j));
    }

    int outline(int i, int what) {
        List<Isle> isles = isles(now);
        need(i >= 0 && i < isles.size());
        range(what, 0, 2);
        List<int[]> sides = outlineOf(now, isles.get(i));
        if (what == 0) {
            return sides.size();
        }
        return (int) sides.stream().filter(s -> s[1] == (what == 1 ? 1 : 3)).count();
    }

    int outlineWay(int i, int k) {
        List<Isle> isles = isles(now);
        need(i >= 0 && i < isles.size());
        List<int[]> sides = outlineOf(now, isles.get(i));
        need(k >= 0 && k < sides.size());
        return sides.get(k)[0];
    }

    int band(int b, int what) {
        need(b >= 0 && b <= now.thresholds.size());
        range(what, 0, 3);
        int cells = (int) Arrays.stream(bands(now, now.least)).filter(v -> v == b).count();
        return switch (what) {
            case 0 -> now.hatch[b];
            case 1 -> cells;
            case 2 -> (int) isles(now).stream().filter(i -> i.band == b).count();
            default -> cells * now.hatch[b];
        };
    }

    int ink() {
        return ink(now);
    }

    // ---- actions

    private interface Change {
        int apply(Plate p);
    }

    private int act(Change change) {
        Plate next = now.copy();
        int answer = change.apply(next);
        past.addLast(now);
        if (past.size() > 14) {
            past.removeFirst();
        }
        now = next;
        return answer;
    }

    int plate(int columns, int rows) {
        range(columns, 1, 12);
        range(rows, 1, 12);
        return act(p -> {
            p.columns = columns;
            p.rows = rows;
            p.greys = new int[rows][columns];
            return columns * rows;
        });
    }

    private static int cell(Plate p, int x, int y, int grey) {
        need(has(p, x, y));
        range(grey, 0, 99);
        int previous = p.greys[y][x];
        p.greys[y][x] = grey;
        return previous;
    }

    int cell(int x, int y, int grey) {
        return act(p -> cell(p, x, y, grey));
    }

    private static int box(Plate p, int x0, int x1, int y0, int y1, int grey) {
        need(has(p, x0, y0) && has(p, x0, y1) && has(p, x1, y0) && has(p, x1, y1));
        range(grey, 0, 99);
        if (x1 < x0 || y1 < y0) {
            throw bad();
        }
        Plate before = p.copy();
        for (int y = y0; y <= y1; y++) {
            Arrays.fill(p.greys[y], x0, x1 + 1, grey);
        }
        return p.differences(before);
    }

    int box(int x0, int x1, int y0, int y1, int grey) {
        return act(p -> box(p, x0, x1, y0, y1, grey));
    }

    private static int threshold(Plate p, int v, boolean in) {
        range(v, 1, 99);
        if (in && p.thresholds.size() == 5 || p.thresholds.contains(v) == in) {
            throw new IllegalStateException();
        }
        if (in) {
            p.thresholds.add(v);
        } else {
            p.thresholds.remove(v);
        }
        return p.thresholds.size();
    }

    int threshold(int v, boolean in) {
        return act(p -> threshold(p, v, in));
    }

    int share(int n) {
        range(n, 0, 5);
        return act(p -> {
            int[] greys = Arrays.stream(p.greys).flatMapToInt(Arrays::stream).sorted().toArray();
            p.thresholds.clear();
            for (int k = 1; k <= n; k++) {
                int wanted = greys.length * k / (n + 1);
                // So many cells lie below v if the last of them in order does.
                int v = wanted == 0 ? 1 : greys[wanted - 1] + 1;
                p.thresholds.add(Math.min(v, 99));
            }
            return p.thresholds.size();
        });
    }

    private static int least(Plate p, int v) {
        range(v, 1, 30);
        int previous = p.least;
        p.least = v;
        return previous;
    }

    int least(int v) {
        return act(p -> least(p, v));
    }

    int hatch(int b, int v) {
        need(b >= 0 && b <= 5);
        range(v, 0, 9);
        return act(p -> {
            int previous = p.hatch[b];
            p.hatch[b] = v;
            return previous;
        });
    }

    int line(int v) {
        range(v, 0, 9);
        return act(p -> {
            int previous = p.line;
            p.line = v;
            return previous;
        });
    }

    private static int blur(Plate p) {
        Plate before = p.copy();
        for (int c = 0; c < p.columns * p.rows; c++) {
            List<Integer> around = neighbours(p, c);
            int sum = 4 * before.greys[c / p.columns][c % p.columns];
            for (int n : around) {
                sum += before.greys[n / p.columns][n % p.columns];
            }
            p.greys[c / p.columns][c % p.columns] = sum / (4 + around.size());
        }
        return p.differences(before);
    }

    int blur() {
        return act(Reference::blur);
    }

    private static int invert(Plate p) {
        for (int[] row : p.greys) {
            Arrays.setAll(row, x -> 99 - row[x]);
        }
        return p.sum();
    }

    int invert() {
        return act(Reference::invert);
    }

    private static int spread(Plate p, int v) {
        range(v, 1, 49);
        Plate before = p.copy();
        for (int[] row : p.greys) {
            Arrays.setAll(row, x -> row[x] < v ? 0 : row[x] > 99 - v ? 99
                    : (row[x] - v) * 99 / (99 - 2 * v));
        }
        return p.differences(before);
    }

    int spread(int v) {
        return act(p -> spread(p, v));
    }

    int noise(long seed, int v) {
        range(v, 1, 50);
        return act(p -> {
            Plate before = p.copy();
            long x = seed;
            for (int[] row : p.greys) {
                for (int k = 0; k < row.length; k++) {
                    x = x * 6364136223846793005L + 1442695040888963407L;
                    int added = (int) (x >>> 33) % (2 * v + 1) - v;
                    row[k] = row[k] + added < 0 ? 0 : row[k] + added > 99 ? 99 : row[k] + added;
                }
            }
            return p.differences(before);
        });
    }

    int undo() {
        if (past.isEmpty()) {
            throw new IllegalStateException();
        }
        now = past.removeLast();
        return past.size();
    }

    // ---- what would be

    int ifLeast(int v, int what) {
        range(v, 1, 30);
        range(what, 0, 2);
        Plate p = now.copy();
        p.least = v;
        return what == 0 ? isles(p).size() : what == 1 ? off(p, v) : ink(p);
    }

    int leastFor(int n) {
        range(n, 1, 144);
        for (int v = 1; v <= 30; v++) {
            if (isles(now, bands(now, v)).size() <= n) {
                return v;
            }
        }
        return -1;
    }

    int bestMove(int k) {
        int t = thresholdAt(k);
        int best = -1;
        int fewest = 0;
        for (int v = 1; v <= 99; v++) {
            Plate p = now.copy();
            p.thresholds.remove(t);
            if (!p.thresholds.add(v)) {
                continue;
            }
            int islands = isles(p).size();
            if (best < 0 || islands < fewest
                    || islands == fewest && Math.abs(v - t) < Math.abs(best - t)) {
                best = v;
                fewest = islands;
            }
        }
        return best;
    }

    int ifCell(int x, int y, int grey, int what) {
        need(has(now, x, y));
        range(grey, 0, 99);
        range(what, 0, 2);
        Plate p = now.copy();
        p.greys[y][x] = grey;
        List<Isle> isles = isles(p);
        return switch (what) {
            case 0 -> isles.get(numberOf(isles, y * p.columns + x)).cells.size();
            case 1 -> isles.size();
            default -> unlike(bands(now, now.least), bands(p, p.least));
        };
    }

    // ---- scripts, simulations

    int runScript(int n, long script) {
        range(n, 1, 2);
        if (script < 0 || Long.toString(script).length() > 8 * n) {
            throw bad();
        }
        String digits = "0".repeat(16) + script;
        digits = digits.substring(digits.length() - 8 * n);
        Plate p = now.copy();
        for (int k = 0; k < n; k++) {
            String d = digits.substring(8 * k, 8 * k + 8);
            if (!succeeds(() -> group(p, d))) {
                return k;
            }
        }
        return -1;
    }

    private static int digits(String d, int from, int to) {
        return Integer.parseInt(d.substring(from - 1, to));
    }

    private static void group(Plate p, String d) {
        if (d.matches("1......0")) {
            cell(p, digits(d, 2, 3), digits(d, 4, 5), digits(d, 6, 7));
        } else if (d.matches("2.......")) {
            int s = digits(d, 8, 8);
            box(p, digits(d, 2, 3), digits(d, 2, 3) + s, digits(d, 4, 5), digits(d, 4, 5) + s,
                    digits(d, 6, 7));
        } else if (d.matches("3..[01]0000")) {
            threshold(p, digits(d, 2, 3), d.charAt(3) == '1');
        } else if (d.matches("4..00000")) {
            least(p, digits(d, 2, 3));
        } else if (d.equals("50000000")) {
            blur(p);
        } else if (d.equals("60000000")) {
            invert(p);
        } else if (d.matches("7...0...")) {
            List<Isle> isles = isles(p);
            int i = digits(d, 2, 4);
            need(i < isles.size() && isles.get(i).cells.size() >= digits(d, 6, 8));
        } else if (d.matches("80000...")) {
            need(isles(p).size() <= digits(d, 6, 8));
        } else if (d.matches("9....00.")) {
            int x = digits(d, 2, 3);
            int y = digits(d, 4, 5);
            need(has(p, x, y) && bands(p, p.least)[y * p.columns + x] == digits(d, 8, 8));
        } else {
            throw bad();
        }
    }

    int simulate(long seed, int m) {
        range(m, 1, 60);
        Plate p = now.copy();
        long x = seed;
        for (int k = 0; k < m; k++) {
            x = x * 6364136223846793005L + 1442695040888963407L;
            int r = (int) (x >>> 33);
            succeeds(() -> turn(p, r % 8, r / 8));
        }
        return 10000 * isles(p).size() + ink(p);
    }

    private static void turn(Plate p, int kind, int q) {
        switch (kind) {
            case 0, 1, 2 -> cell(p, q % 12, q / 12 % 12, q / 144 % 100);
            case 3 -> box(p, q % 12, q % 12 + q / 144 % 4, q / 12 % 12,
                    q / 12 % 12 + q / 576 % 4, q / 2304 % 100);
            case 4 -> threshold(p, 1 + q % 99, q / 128 % 2 == 0);
            case 5 -> {
                if (q / 32 % 3 == 0) {
                    least(p, 1 + q % 30);
                } else {
                    invert(p);
                }
            }
            case 6 -> blur(p);
            default -> spread(p, 1 + q % 49);
        }
    }

    // ---- save slots

    int save(int slot) {
        need(slot == 0 || slot == 1);
        slots[slot] = now;
        return now.sum();
    }

    int restore(int slot) {
        need(slot == 0 || slot == 1);
        if (slots[slot] == null) {
            throw new IllegalStateException();
        }
        now = slots[slot];
        past.clear();
        return now.sum();
    }
}
