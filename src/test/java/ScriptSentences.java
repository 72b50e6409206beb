import java.util.function.Consumer;

/** The sentences of scripts and simulations: promises 32 and 33. */
final class ScriptSentences {
    private static final long GROUP = 100000000L;

    private final Sentences s;

    ScriptSentences(Sentences sentences) {
        s = sentences;
    }

    void show() {
        s.of("Promise 32");
        scripts();
        scriptArguments();
        cellsAndBoxes();
        thresholdsAndSizes();
        wholePlate();
        questions();
        otherGroups();
        s.of("Promise 33");
        simulate();
        turnsOfCells();
        turnsOfThresholds();
        turnsOfGreys();
        leftOut();
    }

    // ---- 32: runScript

    private static void script(Checks c, BandEngraver x, int want, long... groups) {
        long told = groups.length == 1 ? groups[0] : groups[0] * GROUP + groups[1];
        c.due("script " + told, want, () -> x.runScript(groups.length, told));
    }

    /** A command that does not depend on what is ahead of it: alone, and as the second one. */
    private static void command(Checks c, BandEngraver x, long group, boolean succeeds) {
        script(c, x, succeeds ? -1 : 0, group);
        script(c, x, succeeds ? -1 : 1, 80000999L, group);
    }

    private void scripts() {
        s.holds("Runs a script on a copy of the state.", c -> {
            BandEngraver x = Pictures.plate("0010", "0011");
            String before = Pictures.all(x);
            script(c, x, -1, 60000000, 43000000);
            script(c, x, -1, 20000991, 33000000);
            c.same("the state", before, Pictures.all(x));
            c.due("undo", 12, () -> x.undo());
            c.due("what was the last action", 0, () -> x.cellOf(3, 1, 0));
        });
        s.holds("the first command is the highest group of the number (with zeros before it, if it has fewer digits).", c -> {
            BandEngraver x = new BandEngraver();
            // The first one of two, of no digits and of seven, fails.
            script(c, x, 0, 0, 50000000);
            script(c, x, 0, 5000000, 50000000);
            script(c, x, 0, 5000000);
            script(c, x, 0, 0);
            script(c, x, -1, 50000000, 50000000);
            // What the first one does is there for the second one.
            script(c, x, -1, 10000990, 90000001);
            script(c, x, 0, 90000001, 10000990);
            c.due("one command of eight digits, read as two", 0, () -> x.runScript(2, 50000000));
        });
        s.holds("Returns the index, from 0, of the first command that fails; NONE if all succeed.", c -> {
            BandEngraver x = new BandEngraver();
            script(c, x, 0, 99999999, 99999999);
            script(c, x, 1, 50000000, 99999999);
            script(c, x, 0, 99999999, 50000000);
            script(c, x, BandEngraver.NONE, 50000000, 60000000);
            script(c, x, BandEngraver.NONE, 50000000);
            script(c, x, 0, 99999999);
        });
    }

    private void scriptArguments() {
        s.holds("`n`: number of commands, 1 to 2", c -> {
            BandEngraver x = new BandEngraver();
            c.due("one", -1, () -> x.runScript(1, 50000000));
            c.due("two", -1, () -> x.runScript(2, 5000000050000000L));
        });
        s.holds("`script`: the commands, a number of at most 8 * n digits (0 or more)", c -> {
            BandEngraver x = new BandEngraver();
            c.due("0 for one", 0, () -> x.runScript(1, 0));
            c.due("0 for two", 0, () -> x.runScript(2, 0));
            c.due("eight digits", 0, () -> x.runScript(1, 99999999L));
            c.due("nine digits for two", 0, () -> x.runScript(2, 999999999L));
            c.due("sixteen digits", 0, () -> x.runScript(2, 9999999999999999L));
        });
        s.holds("Throws `IllegalArgumentException` if n is out of range, or if script is negative or has more than 8 * n digits", c -> {
            BandEngraver x = new BandEngraver();
            for (int bad : new int[] {0, 3, -1, Integer.MIN_VALUE, Integer.MAX_VALUE}) {
                c.outOfRange("n is " + bad, () -> x.runScript(bad, 50000000));
            }
            for (long bad : new long[] {-1, -50000000, Long.MIN_VALUE}) {
                c.outOfRange("script is " + bad, () -> x.runScript(1, bad));
                c.outOfRange("script for two is " + bad, () -> x.runScript(2, bad));
            }
            for (long bad : new long[] {100000000L, 500000000L, 5000000050000000L, 1L << 32, Long.MAX_VALUE}) {
                c.outOfRange("script is " + bad, () -> x.runScript(1, bad));
            }
            for (long bad : new long[] {10000000000000000L, 50000000500000000L, Long.MAX_VALUE}) {
                c.outOfRange("script for two is " + bad, () -> x.runScript(2, bad));
            }
        });
    }

    private void cellsAndBoxes() {
        s.holds("1 x x y y g g 0: cell(xx, yy, gg).", c -> {
            BandEngraver x = new BandEngraver();
            x.plate(12, 11);
            command(c, x, 10000000, true);
            command(c, x, 11110990, true);
            command(c, x, 11210990, false);
            command(c, x, 11111990, false);
            command(c, x, 19999990, false);
            // The grey is the whole of its two digits.
            script(c, x, -1, 11110500, 91110001);
            script(c, x, 1, 11110490, 91110001);
            script(c, x, -1, 11110490, 91110000);
        });
        s.holds("2 x x y y g g s: box(xx, xx and s, yy, yy and s, gg), \"and\" telling the sum.", c -> {
            BandEngraver x = new BandEngraver();
            x.plate(12, 11);
            command(c, x, 20000999, true);
            command(c, x, 20201999, true);
            command(c, x, 20202999, false);
            command(c, x, 20301999, false);
            command(c, x, 21110990, true);
            command(c, x, 21110991, false);
            command(c, x, 21200990, false);
            command(c, x, 20011990, false);
            command(c, x, 29999999, false);
            // From the first to the last corner, and no cell more.
            script(c, x, -1, 20304992, 90304001);
            script(c, x, -1, 20304992, 90506001);
            script(c, x, -1, 20304992, 90606000);
            script(c, x, -1, 20304992, 90507000);
            script(c, x, -1, 20304992, 90204000);
            script(c, x, -1, 20304992, 70010009);
            script(c, x, 1, 20304992, 70010010);
        });
    }

    private void thresholdsAndSizes() {
        s.holds("3 v v b 0 0 0 0: threshold(vv, b is 1).", c -> {
            BandEngraver x = new BandEngraver();
            command(c, x, 30110000, true);
            command(c, x, 39910000, true);
            command(c, x, 30010000, false);
            command(c, x, 35010000, false);
            command(c, x, 35000000, true);
            command(c, x, 35100000, false);
            script(c, x, 1, 35000000, 35000000);
            script(c, x, -1, 35000000, 35010000);
            x.cell(0, 0, 70);
            script(c, x, -1, 36010000, 90000002);
            script(c, x, -1, 35000000, 90000000);
            for (int v = 1; v <= 4; v++) {
                x.threshold(v, true);
            }
            command(c, x, 36010000, false);
            command(c, x, 35000000, true);
        });
        s.holds("4 v v 0 0 0 0 0: least(vv).", c -> {
            BandEngraver x = Pictures.row(0, 99, 99);
            command(c, x, 40100000, true);
            command(c, x, 43000000, true);
            command(c, x, 40000000, false);
            command(c, x, 43100000, false);
            command(c, x, 49900000, false);
            script(c, x, 1, 40100000, 80000001);
            script(c, x, -1, 40200000, 80000001);
        });
    }

    private void wholePlate() {
        s.holds("5 0 0 0 0 0 0 0: blur().", c -> {
            BandEngraver x = Pictures.row(0, 99, 99, 99, 0);
            x.threshold(20, true);
            // 99 / 5 beside 495 / 6
            command(c, x, 50000000, true);
            x.threshold(19, true);
            script(c, x, -1, 50000000, 90000001);
            script(c, x, 0, 90000001);
        });
        s.holds("6 0 0 0 0 0 0 0: invert().", c -> {
            BandEngraver x = Pictures.row(0, 99, 99);
            command(c, x, 60000000, true);
            script(c, x, -1, 60000000, 90000001);
            script(c, x, -1, 60000000, 90200000);
        });
    }

    private void questions() {
        s.holds("7 i i i 0 n n n: succeeds if the island iii has at least nnn cells.", c -> {
            BandEngraver x = new BandEngraver();
            x.plate(12, 12);
            command(c, x, 70000144, true);
            command(c, x, 70000145, false);
            command(c, x, 70000999, false);
            command(c, x, 70000000, true);
            command(c, x, 70010000, false);
            BandEngraver y = Pictures.chequered(12, 12);
            command(c, y, 71430001, true);
            command(c, y, 71430002, false);
            command(c, y, 71440000, false);
            command(c, y, 79990000, false);
            command(c, y, 70990001, true);
            y.least(2);
            command(c, y, 70000144, true);
            command(c, y, 70010000, false);
        });
        s.holds("8 0 0 0 0 n n n: succeeds if there are at most nnn islands.", c -> {
            BandEngraver x = Pictures.chequered(12, 12);
            command(c, x, 80000144, true);
            command(c, x, 80000143, false);
            command(c, x, 80000999, true);
            command(c, x, 80000000, false);
            x.least(2);
            command(c, x, 80000001, true);
            command(c, x, 80000000, false);
        });
        s.holds("9 x x y y 0 0 b: succeeds if the band of the cell xx, yy is b.", c -> {
            BandEngraver x = Pictures.plate("012345543210");
            for (int column = 0; column < 12; column++) {
                for (int b = 0; b <= 9; b++) {
                    int band = column < 6 ? column : 11 - column;
                    command(c, x, 90000000L + column * 100000L + b, b == band);
                }
            }
            command(c, x, 91200000, false);
            command(c, x, 90001000, false);
            // The band, not that of its grey.
            BandEngraver y = Pictures.plate("00100");
            y.least(2);
            command(c, y, 90200000, true);
            command(c, y, 90200001, false);
        });
    }

    private void otherGroups() {
        s.holds("xx, yy, gg, vv, iii and nnn are decimal numbers.", c -> {
            BandEngraver x = new BandEngraver();
            x.plate(12, 12);
            script(c, x, -1, 10809890, 90809001);
            script(c, x, -1, 11010090, 91010000);
            script(c, x, -1, 11110100, 91110000);
            script(c, x, -1, 40900000, 80000001);
            script(c, x, -1, 30910000, 90000000);
            script(c, x, -1, 20809892, 70000135);
            script(c, x, 1, 20809892, 70000136);
            BandEngraver y = Pictures.chequered(12, 12);
            command(c, y, 70080001, true);
            command(c, y, 71090001, true);
            command(c, y, 80000145, true);
            command(c, y, 80000099, false);
        });
        s.holds("The commands 1 to 6 fail if the method would throw an exception", c -> {
            BandEngraver x = new BandEngraver();
            command(c, x, 10800000, false);
            command(c, x, 20700001, false);
            command(c, x, 35010000, false);
            command(c, x, 30000000, false);
            command(c, x, 43100000, false);
        });
        s.holds("commands with columns, rows or islands that do not exist fail", c -> {
            BandEngraver x = new BandEngraver();
            x.plate(3, 2);
            command(c, x, 10300000, false);
            command(c, x, 10002000, false);
            command(c, x, 20300000, false);
            command(c, x, 20002000, false);
            command(c, x, 70010000, false);
            command(c, x, 90300000, false);
            command(c, x, 90002000, false);
            command(c, x, 90201000, true);
        });
        s.holds("and so does any other group (also one with another digit where a 0 is written, or a b above 1 in 3).", c -> {
            BandEngraver x = new BandEngraver();
            noughts(c, x, 10000990, 1);
            noughts(c, x, 35000000, 1, 10, 100, 1000);
            noughts(c, x, 39910000, 1, 10, 100, 1000);
            noughts(c, x, 40300000, 1, 10, 100, 1000, 10000);
            noughts(c, x, 50000000, 1, 10, 100, 1000, 10000, 100000, 1000000);
            noughts(c, x, 60000000, 1, 10, 100, 1000, 10000, 100000, 1000000);
            noughts(c, x, 70000001, 1000);
            noughts(c, x, 80000001, 1000, 10000, 100000, 1000000);
            noughts(c, x, 90000000, 10, 100);
            for (int b = 2; b <= 9; b++) {
                command(c, x, 36000000L + b * 10000L, false);
                command(c, x, 35000000L + b * 10000L, false);
            }
            for (long group = 0; group < 10000000L; group += 271828) {
                command(c, x, group, false);
            }
        });
    }

    /** A command that succeeds, and fails with another digit at one of these places. */
    private static void noughts(Checks c, BandEngraver x, long group, long... places) {
        command(c, x, group, true);
        for (long place : places) {
            for (int digit = 1; digit <= 9; digit++) {
                command(c, x, group + digit * place, false);
            }
        }
    }

    // ---- 33: simulate

    /** The simulation of one turn, r % 8 and q, against what is due behind the call that it stands for. */
    private static void turn(Checks c, int kind, long q, Consumer<BandEngraver> call) {
        BandEngraver x = spotted();
        BandEngraver y = spotted();
        Checks.answer(() -> {
            call.accept(y);
            return 0;
        });
        long due = 10000L * y.about(4) + y.ink();
        c.due("the turn " + kind + " " + q, due, () -> x.simulate(Seeds.forNumber((int) (8 * q + kind)), 1));
    }

    /** A plate of 12 columns and rows with several islands, holes and greys between the thresholds. */
    private static BandEngraver spotted() {
        BandEngraver x = new BandEngraver();
        x.plate(12, 12);
        x.noise(77, 45);
        x.box(3, 9, 3, 9, 55);
        x.box(5, 6, 5, 6, 30);
        x.threshold(31, true);
        x.threshold(80, true);
        x.hatch(0, 3);
        x.line(2);
        return x;
    }

    private static final long HIGHEST_Q = Integer.MAX_VALUE / 8;

    private void simulate() {
        s.holds("Simulates m turns on a copy of the state.", c -> {
            BandEngraver x = spotted();
            String before = Pictures.all(x);
            for (int seed = 0; seed < 30; seed++) {
                int told = seed;
                c.yes("it is answered", !Checks.answer(() -> x.simulate(told, 60)).startsWith("throws"));
            }
            c.same("the state", before, Pictures.all(x));
            c.due("undo", 7, () -> x.undo());
        });
        s.holds("`m`: number of turns, 1 to 60", c -> {
            BandEngraver x = spotted();
            for (int m = 1; m <= 60; m++) {
                int turns = m;
                BandEngraver y = spotted();
                c.due("simulate(5, " + m + ")", replayed(y, 5, m), () -> x.simulate(5, turns));
            }
        });
        s.holds("`seed`: any long", c -> {
            BandEngraver x = spotted();
            for (long seed : new long[] {0, 1, -1, Long.MAX_VALUE, Long.MIN_VALUE, 1L << 33, 987654321987654321L}) {
                c.due("simulate(" + seed + ", 60)", replayed(spotted(), seed, 60), () -> x.simulate(seed, 60));
            }
        });
        s.holds("Each turn first replaces x by x * 6364136223846793005L + 1442695040888963407L (with long overflow), and r = (int) (x >>> 33) is computed.", c -> {
            BandEngraver x = new BandEngraver();
            // What these seeds bring was found out by a program of another language.
            c.due("5: cell(2, 3, 94)", 20005, () -> x.simulate(5, 1));
            c.due("3: box(4, 7, 1, 4, 89)", 20028, () -> x.simulate(3, 1));
            c.due("25: invert", 10064, () -> x.simulate(25, 1));
            c.due("0: spread(24)", 10000, () -> x.simulate(0, 1));
            c.due("57: cell(1, 2, 96)", 20005, () -> x.simulate(57, 1));
        });
        s.holds("Returns 10000 * (the islands at the end) + (ink() at the end).", c -> {
            BandEngraver x = Pictures.chequered(12, 12);
            x.hatch(0, 9);
            x.hatch(1, 9);
            x.line(9);
            // A threshold that is to be taken out and is not there.
            long nothing = Seeds.forNumber(8 * 128 + 4);
            c.due("as much as can be", 1443672, () -> x.simulate(nothing, 1));
            c.due("as little as can be", 10000, () -> new BandEngraver().simulate(4, 1));
        });
        s.holds("Throws `IllegalArgumentException` if m is out of range", c -> {
            BandEngraver x = new BandEngraver();
            for (int bad : new int[] {0, 61, -1, Integer.MIN_VALUE, Integer.MAX_VALUE}) {
                c.outOfRange("simulate(0, " + bad + ")", () -> x.simulate(0, bad));
            }
        });
    }

    /** The turns as calls of the face. */
    private static long replayed(BandEngraver y, long seed, int m) {
        long x = seed;
        for (int turn = 0; turn < m; turn++) {
            x = Seeds.next(x);
            int r = (int) (x >>> 33);
            Checks.answer(() -> called(y, r % 8, r / 8));
        }
        return 10000L * y.about(4) + y.ink();
    }

    private static int called(BandEngraver y, int kind, int q) {
        switch (kind) {
            case 3:
                int x0 = q % 12;
                int y0 = q / 12 % 12;
                return y.box(x0, x0 + q / 144 % 4, y0, y0 + q / 576 % 4, q / 2304 % 100);
            case 4:
                return y.threshold(1 + q % 99, q / 128 % 2 == 0);
            case 5:
                return q / 32 % 3 == 0 ? y.least(1 + q % 30) : y.invert();
            case 6:
                return y.blur();
            case 7:
                return y.spread(1 + q % 49);
            default:
                return y.cell(q % 12, q / 12 % 12, q / 144 % 100);
        }
    }

    private void turnsOfCells() {
        s.holds("0 to 2: cell(q % 12, q / 12 % 12, q / 144 % 100).", c -> {
            for (int k = 0; k < 144; k++) {
                int column = k % 12;
                int row = k / 12;
                turn(c, k % 3, k + 144 * 99, x -> x.cell(column, row, 99));
                turn(c, k % 3, k, x -> x.cell(column, row, 0));
                turn(c, k % 3, k + 144 * 100, x -> x.cell(column, row, 0));
                turn(c, k % 3, k + 144 * 50, x -> x.cell(column, row, 50));
            }
            turn(c, 2, HIGHEST_Q, x -> x.cell((int) (HIGHEST_Q % 12), (int) (HIGHEST_Q / 12 % 12), (int) (HIGHEST_Q / 144 % 100)));
        });
        s.holds("3: box(q % 12, q % 12 + q / 144 % 4, q / 12 % 12, q / 12 % 12 + q / 576 % 4, q / 2304 % 100).", c -> {
            for (int k = 0; k < 144; k++) {
                int x0 = k % 12;
                int y0 = k / 12;
                int w = (k + k / 12) % 4;
                int h = (k / 5 + k / 12) % 4;
                turn(c, 3, k + 144 * w + 576 * h + 2304 * 99, x -> x.box(x0, x0 + w, y0, y0 + h, 99));
                turn(c, 3, k + 144 * w + 576 * h + 2304 * 100, x -> x.box(x0, x0 + w, y0, y0 + h, 0));
            }
        });
    }

    /** The least q from a number on that leaves v of divisor, and of which another part leaves one more. */
    private static long q(int v, int divisor, int part, int parts, int left) {
        for (long q = 0; q < 1000000; q++) {
            if (q % divisor == v && q / part % parts == left) {
                return q;
            }
        }
        return 0;
    }

    private void turnsOfThresholds() {
        s.holds("4: threshold(1 + q % 99, q / 128 % 2 is 0).", c -> {
            for (int k = 1; k <= 99; k++) {
                int v = k;
                turn(c, 4, q(v - 1, 99, 128, 2, 0), x -> x.threshold(v, true));
                turn(c, 4, q(v - 1, 99, 128, 2, 1), x -> x.threshold(v, false));
            }
        });
        s.holds("5: least(1 + q % 30), if q / 32 % 3 is 0, otherwise invert().", c -> {
            for (int k = 1; k <= 30; k++) {
                int v = k;
                turn(c, 5, q(v - 1, 30, 32, 3, 0), x -> x.least(v));
                turn(c, 5, q(v - 1, 30, 32, 3, 1), x -> x.invert());
                turn(c, 5, q(v - 1, 30, 32, 3, 2), x -> x.invert());
            }
        });
    }

    private void turnsOfGreys() {
        s.holds("6: blur().", c -> {
            turn(c, 6, 0, x -> x.blur());
            turn(c, 6, HIGHEST_Q - 1, x -> x.blur());
        });
        s.holds("7: spread(1 + q % 49).", c -> {
            for (int k = 1; k <= 49; k++) {
                int v = k;
                turn(c, 7, v - 1, x -> x.spread(v));
                turn(c, 7, v - 1 + 49 * 1000000, x -> x.spread(v));
            }
            turn(c, 7, HIGHEST_Q, x -> x.spread((int) (1 + HIGHEST_Q % 49)));
        });
    }

    private void leftOut() {
        s.holds("What would throw an exception is left out.", c -> {
            BandEngraver x = new BandEngraver();
            x.plate(3, 2);
            x.cell(2, 1, 99);
            long due = 20003;
            c.due("a column", due, () -> x.simulate(Seeds.forNumber(8 * (3 + 144 * 99)), 1));
            c.due("a row", due, () -> x.simulate(Seeds.forNumber(8 * (12 * 2 + 144 * 99)), 1));
            c.due("a box that is too wide", due, () -> x.simulate(Seeds.forNumber(8 * (144 * 3 + 2304 * 99) + 3), 1));
            c.due("a box that is too high", due, () -> x.simulate(Seeds.forNumber(8 * (576 * 2 + 2304 * 99) + 3), 1));
            c.due("a threshold that is there", due, () -> x.simulate(Seeds.forNumber(8 * 49 + 4), 1));
            c.due("a threshold that is not there", due, () -> x.simulate(Seeds.forNumber(8 * 128 + 4), 1));
            for (int v = 1; v <= 4; v++) {
                x.threshold(v, true);
            }
            long five = 10000L * x.about(4) + x.ink();
            c.due("a sixth threshold", five, () -> x.simulate(Seeds.forNumber(8 * 97 + 4), 1));
        });
    }
}
