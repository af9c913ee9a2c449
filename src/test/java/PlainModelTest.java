import java.util.Random;

/** All promises at once: runs of 512 calls, the same ones every time, against the plain model. */
public final class PlainModelTest {
    private static final int RUNS = 400, CALLS = 512;
    private static final Check check = new Check();

    private final Random random;
    private final WavePairs x = new WavePairs();
    private final PlainModel y = new PlainModel();
    /** Few values and short waves let signals meet; how few is another thing for every run. */
    private final int values;
    private final int ticks;
    private final int signals;
    private int calls = 0;

    private PlainModelTest(long seed) {
        random = new Random(seed);
        values = 2 + random.nextInt(4);
        ticks = new int[] {12, 60, 200, 4000}[random.nextInt(4)];
        signals = new int[] {2, 4, 12}[random.nextInt(3)];
    }

    public static void main(String[] args) {
        for (int run = 0; run < RUNS; run++) {
            PlainModelTest test = new PlainModelTest(run);
            if (run % 2 == 0) {
                test.tellBusyChannel("run " + run + ", ahead: ");
            }
            // A step may take two calls.
            while (test.calls <= CALLS - 2) {
                test.step("run " + run + ", call " + test.calls + ": ");
            }
        }
        check.end();
    }

    private int oddly(int usual, int least, int most) {
        int dice = random.nextInt(150);
        if (dice == 0) {
            return least - 1;
        }
        if (dice == 1) {
            return most + 1;
        }
        if (dice == 2) {
            return random.nextInt();
        }
        return dice == 3 ? least : dice == 4 ? most : usual;
    }

    private int signal() {
        return oddly(random.nextInt(signals), 0, 11);
    }

    private int run() {
        return oddly(random.nextInt(2), 0, 1);
    }

    private int level() {
        int v = random.nextInt(values + 1);
        return oddly(v == values ? 256 : v, 0, 256);
    }

    private int tick() {
        return oddly(random.nextInt(ticks), 0, 3999);
    }

    private int what(int most) {
        return oddly(random.nextInt(most + 1), 0, most);
    }

    private int index() {
        return oddly(random.nextInt(8) - 1, -1, 5);
    }

    private long fourChanges() {
        long v = 0;
        for (int i = 0; i < 4; i++) {
            int more = random.nextInt(60) == 0 ? 0 : 1 + random.nextInt(Math.min(127, 1 + ticks / 20));
            int level = random.nextInt(100) == 0 ? random.nextInt(512) : random.nextInt(values + 1);
            v = v << 16 | more << 9 | (level == values ? 256 : level);
        }
        return v;
    }

    private void due(String call, int got, int want) {
        calls++;
        check.due(call, got, want);
    }

    private void step(String at) {
        switch (random.nextInt(4)) {
            case 0:
                fill(at);
                break;
            case 1:
                tell(at);
                break;
            default:
                ask(at);
                break;
        }
    }

    /** A clock that ticks, a valid and a ready that mostly have 1, and data: chance alone makes too few acts. */
    private void tellBusyChannel(String at) {
        due(at + "channel", x.channel(0, 0, 1, 2, 3), y.channel(0, 0, 1, 2, 3));
        for (int i = 0; i < 24; i++) {
            int t = 4 * i + random.nextInt(4);
            int data = random.nextInt(values);
            int one = random.nextInt(6) == 0 ? 0 : 1;
            for (int run = 0; run < 2; run++) {
                int late = t + (random.nextInt(10) == 0 ? 1 : 0);
                int v = random.nextInt(40) == 0 ? 256 : data;
                due(at + "clock", x.change(run, 0, late, i % 2), y.change(run, 0, late, i % 2));
                due(at + "data", x.change(run, 3, t, v), y.change(run, 3, t, v));
                if (i % 4 == 0) {
                    due(at + "valid", x.change(run, 1, t, one), y.change(run, 1, t, one));
                    due(at + "ready", x.change(run, 2, t, 1), y.change(run, 2, t, 1));
                }
            }
        }
    }

    /** Often the same in both runs, so that they agree in part. */
    private void fill(String at) {
        int run = run();
        int s = signal();
        int kind = random.nextInt(24);
        if (kind < 15) {
            int n = oddly(1 + random.nextInt(4), 1, 4);
            long v = fourChanges();
            due(at + "changes", x.changes(run, s, n, v), y.changes(run, s, n, v));
            if (random.nextInt(4) != 0) {
                due(at + "changes", x.changes(1 - run, s, n, v), y.changes(1 - run, s, n, v));
            }
        } else if (kind < 21) {
            int t = tick();
            int v = level();
            due(at + "change", x.change(run, s, t, v), y.change(run, s, t, v));
        } else {
            int t = tick();
            due(at + "cut", x.cut(run, s, t), y.cut(run, s, t));
            due(at + "cut", x.cut(1 - run, s, t), y.cut(1 - run, s, t));
        }
    }

    private void tell(String at) {
        int s = signal();
        int a = signal();
        int b = signal();
        int t = tick();
        int v = level();
        int g = oddly(random.nextInt(4), 0, 3);
        int k = oddly(random.nextInt(7) - 3, -50, 50);
        switch (random.nextInt(9)) {
            case 0:
                int e = oddly(1 + random.nextInt(ticks), 1, 4000);
                due(at + "rule 0", x.rule(0, e), y.rule(0, e));
                break;
            case 1:
                int w = what(1);
                int l = what(1);
                due(at + "rule", w == 0 ? 0 : x.rule(w, l), w == 0 ? 0 : y.rule(w, l));
                break;
            case 2:
                int n = random.nextInt(3) == 0 ? a : s;
                due(at + "call 0", x.call(s, 0, n), y.call(s, 0, n));
                break;
            case 3:
                int c = oddly(1, 0, 1);
                due(at + "call 1", x.call(s, c, g), y.call(s, c, g));
                break;
            case 4:
                due(at + "shift", x.shift(g, k), y.shift(g, k));
                break;
            case 5:
                int u = t + random.nextInt(10);
                due(at + "mask", x.mask(s, t, u), y.mask(s, t, u));
                break;
            case 6:
                due(at + "maskWhile", x.maskWhile(s, a, v), y.maskWhile(s, a, v));
                if (random.nextInt(4) == 0) {
                    due(at + "noMasks", x.noMasks(), y.noMasks());
                }
                break;
            case 7:
                int d = signal();
                due(at + "channel", x.channel(g, s, a, b, d), y.channel(g, s, a, b, d));
                break;
            default:
                int kind = oddly(random.nextInt(7), 0, 6);
                due(at + "gate", x.gate(s, kind, a, b), y.gate(s, kind, a, b));
                break;
        }
    }

    private void ask(String at) {
        int r = run();
        int s = signal();
        int t = tick();
        int i = index();
        int g = oddly(random.nextInt(4), 0, 3);
        switch (random.nextInt(13)) {
            case 0:
                due(at + "value", x.value(r, s, t), y.value(r, s, t));
                break;
            case 1:
                due(at + "differences", x.differences(), y.differences());
                break;
            case 2:
            case 3:
                int d = random.nextBoolean() ? i : random.nextInt(60);
                int w = what(2);
                due(at + "difference", x.difference(d, w), y.difference(d, w));
                break;
            case 4:
                due(at + "first", x.first(), y.first());
                break;
            case 5:
                int q = what(1);
                due(at + "act", x.act(g, r, i, q), y.act(g, r, i, q));
                break;
            case 6:
                due(at + "unlike", x.unlike(g), y.unlike(g));
                break;
            case 7:
                due(at + "fit", x.fit(g), y.fit(g));
                break;
            case 8:
                int in = oddly(t % y.end(), 0, y.end() - 1);
                due(at + "guilty", x.guilty(in), y.guilty(in));
                break;
            case 9:
                due(at + "alike", x.alike(s), y.alike(s));
                break;
            case 10:
                int b = random.nextInt(4) == 0 ? s : signal();
                int v = level();
                int o = level();
                int n = oddly(1 + random.nextInt(4), 1, 4000);
                int p = what(1);
                due(at + "holds", x.holds(r, s, v, b, o, n, i, p), y.holds(r, s, v, b, o, n, i, p));
                break;
            case 11:
                int h = oddly(random.nextInt(y.end()), 0, y.end() - 1);
                int u = oddly(1 + random.nextInt(y.end()), 1, y.end());
                int from = Math.min(h, u);
                int upTo = Math.max(h, u);
                int z = what(2);
                due(at + "window", x.window(r, s, from, upTo, z), y.window(r, s, from, upTo, z));
                break;
            default:
                int c = what(3);
                due(at + "count", x.count(c), y.count(c));
                break;
        }
    }
}
