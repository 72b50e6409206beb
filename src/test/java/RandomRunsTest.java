import java.util.Random;
import java.util.function.ToIntFunction;

/** Runs of calls with fixed seeds on the class and on the reference: every answer must be the same. */
public final class RandomRunsTest {
    private static final String SIGNS = "EEpbtkmuis0123456789 x";

    private final Checks checks = new Checks();
    private Random random;
    private BandEngraver x;
    private Reference y;
    private String where;
    private int width;
    private int height;

    public static void main(String[] args) {
        RandomRunsTest test = new RandomRunsTest();
        int runs = args.length > 1 ? Integer.parseInt(args[1]) : 80;
        int from = args.length > 2 ? Integer.parseInt(args[2]) : 0;
        for (int run = from; run < from + runs; run++) {
            test.run(run, 12);
        }
        test.checks.end();
    }

    private void run(int run, int mostSide) {
        random = new Random(run);
        x = new BandEngraver();
        y = new Reference();
        where = "run " + run;
        width = 8;
        height = 8;
        begin(mostSide);
        for (int call = 0; call < 150; call++) {
            where = "run " + run + " call " + call;
            act();
            if (random.nextInt(3) == 0) {
                ask();
            }
            if (random.nextInt(40) == 0) {
                askAll();
            }
        }
        askAll();
    }

    private int any(int bound) {
        return random.nextInt(bound);
    }

    /** Mostly a number in range, now and then one just out of it or far away. */
    private int about(int low, int high) {
        switch (any(40)) {
            case 0:
                return low - 1;
            case 1:
                return high + 1;
            case 2:
                return any(2) == 0 ? Integer.MIN_VALUE : Integer.MAX_VALUE;
            default:
                return low + any(high - low + 1);
        }
    }

    private void same(String call, ToIntFunction<BandEngraver> a, ToIntFunction<Reference> b) {
        String want = Checks.answer(() -> b.applyAsInt(y));
        String got = Checks.answer(() -> a.applyAsInt(x));
        checks.same(where + ": " + call, want, got);
    }

    private void begin(int mostSide) {
        takePlate(1 + any(mostSide), 1 + any(mostSide));
        int thresholds = any(5);
        for (int k = 0; k < thresholds; k++) {
            changeThreshold(about(1, 99), true);
        }
        long seed = random.nextLong();
        same("noise", e -> e.noise(seed, 50), r -> r.noise(seed, 50));
    }

    private void takePlate(int columns, int rows) {
        same("plate", e -> e.plate(columns, rows), r -> r.plate(columns, rows));
        width = y.about(0);
        height = y.about(1);
    }

    private void changeThreshold(int v, boolean in) {
        same("threshold " + v + in, e -> e.threshold(v, in), r -> r.threshold(v, in));
    }

    private void act() {
        int a = about(0, width - 1);
        int b = about(0, height - 1);
        int grey = about(0, 99);
        int v = about(1, 30);
        long seed = random.nextLong();
        switch (any(26)) {
            case 0:
                if (any(4) == 0) {
                    takePlate(about(1, 12), about(1, 12));
                }
                break;
            case 1, 2, 3, 4:
                same("cell", e -> e.cell(a, b, grey), r -> r.cell(a, b, grey));
                break;
            case 5, 6, 7:
                int c = a >= 0 && a < width ? Math.max(about(a, width - 1), a - any(30) / 29) : a;
                int d = b >= 0 && b < height ? Math.max(about(b, height - 1), b - any(30) / 29) : b;
                same("box", e -> e.box(a, c, b, d, grey), r -> r.box(a, c, b, d, grey));
                break;
            case 8, 9:
                changeThreshold(about(1, 99), any(3) != 0);
                break;
            case 10:
                int k = any(5);
                if (k < y.about(2)) {
                    changeThreshold(y.thresholdAt(k), any(6) == 0);
                }
                break;
            case 11:
                int n = about(0, 5);
                same("share " + n, e -> e.share(n), r -> r.share(n));
                break;
            case 12, 13:
                int small = any(2) == 0 ? v : 1 + any(6);
                same("least " + small, e -> e.least(small), r -> r.least(small));
                break;
            case 14:
                int band = about(0, 5);
                int ink = about(0, 9);
                same("hatch", e -> e.hatch(band, ink), r -> r.hatch(band, ink));
                break;
            case 15:
                int line = about(0, 9);
                same("line", e -> e.line(line), r -> r.line(line));
                break;
            case 16:
                if (any(3) == 0) {
                    same("blur", e -> e.blur(), r -> r.blur());
                }
                break;
            case 17:
                same("invert", e -> e.invert(), r -> r.invert());
                break;
            case 18:
                int s = about(1, 49);
                same("spread " + s, e -> e.spread(s), r -> r.spread(s));
                break;
            case 19, 20:
                int strength = about(1, 50);
                same("noise", e -> e.noise(seed, strength), r -> r.noise(seed, strength));
                break;
            case 21, 22:
                int steps = any(10) == 0 ? 16 : 1 + any(2);
                for (int step = 0; step < steps; step++) {
                    same("undo", e -> e.undo(), r -> r.undo());
                }
                break;
            case 23:
                int to = about(0, 1);
                same("save " + to, e -> e.save(to), r -> r.save(to));
                break;
            case 24:
                int from = about(0, 1);
                same("restore " + from, e -> e.restore(from), r -> r.restore(from));
                break;
            default:
                if (any(3) == 0) {
                    write();
                }
                break;
        }
        width = y.about(0);
        height = y.about(1);
    }

    private void ask() {
        int a = about(0, width - 1);
        int b = about(0, height - 1);
        int grey = about(0, 99);
        int islands = y.about(4);
        int i = about(0, islands - 1);
        int j = about(0, islands - 1);
        switch (any(14)) {
            case 0:
                int what = about(0, 10);
                same("about " + what, e -> e.about(what), r -> r.about(what));
                break;
            case 1:
                int w = about(0, 5);
                same("cellOf " + w, e -> e.cellOf(a, b, w), r -> r.cellOf(a, b, w));
                break;
            case 2:
                int k = about(0, 4);
                same("thresholdAt", e -> e.thresholdAt(k), r -> r.thresholdAt(k));
                break;
            case 3:
                int of = about(0, 8);
                same("island " + of, e -> e.island(i, of), r -> r.island(i, of));
                break;
            case 4:
                same("border", e -> e.border(i, j), r -> r.border(i, j));
                break;
            case 5:
                int o = about(0, 2);
                same("outline " + o, e -> e.outline(i, o), r -> r.outline(i, o));
                int side = about(0, 30);
                same("outlineWay " + side, e -> e.outlineWay(i, side), r -> r.outlineWay(i, side));
                break;
            case 6:
                int band = about(0, y.about(2));
                int n = about(0, 3);
                same("band", e -> e.band(band, n), r -> r.band(band, n));
                break;
            case 7:
                int v = about(1, 30);
                int t = about(0, 2);
                same("ifLeast", e -> e.ifLeast(v, t), r -> r.ifLeast(v, t));
                break;
            case 8:
                int few = any(2) == 0 ? about(1, 144) : 1 + any(6);
                same("leastFor " + few, e -> e.leastFor(few), r -> r.leastFor(few));
                break;
            case 9:
                if (width * height <= 40) {
                    int m = about(0, 4);
                    same("bestMove " + m, e -> e.bestMove(m), r -> r.bestMove(m));
                }
                break;
            case 10:
                int q = about(0, 2);
                same("ifCell " + q, e -> e.ifCell(a, b, grey, q), r -> r.ifCell(a, b, grey, q));
                break;
            case 11, 12:
                askScript();
                break;
            default:
                long seed = random.nextLong();
                int turns = about(1, 60);
                same("simulate", e -> e.simulate(seed, turns), r -> r.simulate(seed, turns));
                break;
        }
    }

    private void askScript() {
        int n = about(1, 2);
        long script = group();
        if (n == 2 || any(30) == 0) {
            script = script * 100000000L + group();
        }
        if (any(40) == 0) {
            script = random.nextLong();
        }
        long told = script;
        same("runScript " + n + " " + told, e -> e.runScript(n, told), r -> r.runScript(n, told));
    }

    private long group() {
        long xy = any(width + 1) * 100L + any(height + 1);
        long grey = any(100);
        long group;
        switch (any(11)) {
            case 0:
                group = 10000000L + xy * 1000 + grey * 10;
                break;
            case 1, 2:
                group = 20000000L + xy * 1000 + grey * 10 + any(4);
                break;
            case 3:
                group = 30000000L + any(100) * 100000L + any(3) * 10000L;
                break;
            case 4:
                group = 40000000L + any(33) * 100000L;
                break;
            case 5:
                group = 50000000L;
                break;
            case 6:
                group = 60000000L;
                break;
            case 7:
                group = 70000000L + any(y.about(4) + 1) * 10000L + any(20);
                break;
            case 8:
                group = 80000000L + any(2 * y.about(4) + 1);
                break;
            case 9:
                group = 90000000L + xy * 1000 + any(4);
                break;
            default:
                return any(100000000);
        }
        if (any(12) == 0) {
            long[] places = {1, 10, 100, 1000, 10000, 100000, 1000000};
            group += places[any(places.length)];
        }
        return group;
    }

    private void write() {
        same("clearText", e -> e.clearText(), r -> r.clearText());
        StringBuilder text = new StringBuilder();
        text.append(String.format("E%02d%02d", 1 + any(12), 1 + any(12)));
        int words = any(24);
        for (int k = 0; k < words; k++) {
            text.append(word());
        }
        if (any(4) == 0) {
            text.setCharAt(any(text.length()), SIGNS.charAt(any(SIGNS.length())));
        }
        if (any(8) == 0) {
            text.setLength(any(text.length() + 1));
        }
        for (int k = 0; k < text.length(); k++) {
            int sign = text.charAt(k);
            same("append", e -> e.append(sign), r -> r.append(sign));
        }
        int odd = about(0, 255);
        if (any(10) == 0) {
            same("append", e -> e.append(odd), r -> r.append(odd));
        }
        same("errorPosition", e -> e.errorPosition(), r -> r.errorPosition());
        same("load " + text, e -> e.load(), r -> r.load());
    }

    private String word() {
        switch (any(9)) {
            case 0, 1:
                return String.format("p%02d%02d%02d", any(12), any(12), any(100));
            case 2, 3:
                int a = any(12);
                int b = any(12);
                return String.format("b%02d%02d%02d%02d%02d", a, Math.min(11, a + any(4)), b,
                        Math.min(11, b + any(5)), any(100));
            case 4:
                return String.format("t%02d", 1 + any(99));
            case 5:
                return String.format("k%02d", any(2) == 0 ? 50 : 1 + any(99));
            case 6:
                return String.format("m%02d", 1 + any(30));
            case 7:
                return any(2) == 0 ? "u" : "i";
            default:
                return String.format("s%02d", 1 + any(49));
        }
    }

    /** Everything that can be asked of what there is. */
    private void askAll() {
        for (int what = 0; what <= 10; what++) {
            int w = what;
            same("about " + w, e -> e.about(w), r -> r.about(w));
        }
        same("ink", e -> e.ink(), r -> r.ink());
        for (int c = 0; c < 5; c++) {
            int a = any(width);
            int b = any(height);
            for (int what = 0; what <= 5; what++) {
                int w = what;
                same("cellOf " + w, e -> e.cellOf(a, b, w), r -> r.cellOf(a, b, w));
            }
        }
        int islands = y.about(4);
        for (int k = 0; k < Math.min(8, islands); k++) {
            int i = k == 0 ? 0 : any(islands);
            int other = any(islands);
            for (int what = 0; what <= 8; what++) {
                int w = what;
                same("island " + i + " " + w, e -> e.island(i, w), r -> r.island(i, w));
            }
            for (int what = 0; what <= 2; what++) {
                int w = what;
                same("outline " + i + " " + w, e -> e.outline(i, w), r -> r.outline(i, w));
            }
            same("border", e -> e.border(i, other), r -> r.border(i, other));
            for (int side = -1; side <= 40; side++) {
                int s = side;
                same("outlineWay " + s, e -> e.outlineWay(i, s), r -> r.outlineWay(i, s));
            }
        }
        for (int b = 0; b <= y.about(2); b++) {
            for (int what = 0; what <= 3; what++) {
                int band = b;
                int w = what;
                same("band " + b + " " + w, e -> e.band(band, w), r -> r.band(band, w));
            }
        }
        for (int k = 0; k <= 5; k++) {
            int t = k;
            same("thresholdAt " + t, e -> e.thresholdAt(t), r -> r.thresholdAt(t));
        }
    }
}
