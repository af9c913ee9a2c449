import java.util.ArrayList;
import java.util.List;
import java.util.Map;
import java.util.TreeMap;
import java.util.function.IntPredicate;

/** The document once more, tick by tick and with no thought of speed, to hold WavePairs against. */
final class PlainModel {
    private final List<TreeMap<Integer, Integer>> rows = new ArrayList<>();
    private final int[] name = new int[12];
    private final int[] group = new int[12];
    private final int[] shift = new int[4];
    /** signal, 0, a, b; or signal, 1, m, value */
    private final List<int[]> masks = new ArrayList<>();
    private final int[][] channels = new int[4][];
    private final int[][] gates = new int[12][];
    private int end = 1000;
    private int loose = 0;

    PlainModel() {
        for (int i = 0; i < 24; i++) {
            rows.add(new TreeMap<>());
        }
        for (int i = 0; i < 12; i++) {
            name[i] = i;
        }
    }

    private static boolean in(int x, int least, int most) {
        return least <= x && x <= most;
    }

    private static boolean isSignal(int s) {
        return in(s, 0, 11);
    }

    private TreeMap<Integer, Integer> row(int run, int signal) {
        return rows.get(12 * run + signal);
    }

    private int at(int run, int signal, int tick) {
        Map.Entry<Integer, Integer> e = row(run, signal).floorEntry(tick);
        return e == null ? 256 : e.getValue();
    }

    private int named(int run, int signal, int tick) {
        return at(run, run == 0 ? signal : name[signal], tick);
    }

    private boolean agree(int v, int w) {
        return v == w || loose == 1 && (v == 256 || w == 256);
    }

    int change(int run, int signal, int tick, int value) {
        if (!in(run, 0, 1) || !isSignal(signal) || !in(tick, 0, 3999) || !in(value, 0, 256)) {
            return -1;
        }
        TreeMap<Integer, Integer> r = row(run, signal);
        if (r.ceilingKey(tick) != null) {
            return -2;
        }
        if (r.size() == 50) {
            return -3;
        }
        r.put(tick, value);
        return r.size();
    }

    int changes(int run, int signal, int n, long v) {
        if (!in(run, 0, 1) || !isSignal(signal) || !in(n, 1, 4)) {
            return -1;
        }
        TreeMap<Integer, Integer> r = new TreeMap<>(row(run, signal));
        int tick = r.isEmpty() ? -1 : r.lastKey();
        for (int i = n - 1; i >= 0; i--) {
            long bits = v >> 16 * i & 65535;
            int more = (int) (bits / 512);
            int value = (int) (bits % 512);
            tick += more;
            if (more == 0 || value > 256 || tick > 3999) {
                return -1;
            }
            r.put(tick, value);
        }
        if (r.size() > 50) {
            return -3;
        }
        rows.set(12 * run + signal, r);
        return r.size();
    }

    int cut(int run, int signal, int tick) {
        if (!in(run, 0, 1) || !isSignal(signal) || !in(tick, 0, 3999)) {
            return -1;
        }
        Map<Integer, Integer> tail = row(run, signal).tailMap(tick, true);
        int gone = tail.size();
        tail.clear();
        return gone;
    }

    int value(int run, int signal, int tick) {
        if (!in(run, 0, 1) || !isSignal(signal) || !in(tick, 0, 3999)) {
            return -1;
        }
        return at(run, signal, tick);
    }

    int end() {
        return end;
    }

    int rule(int what, int v) {
        int was = what == 0 ? end : loose;
        if (what == 0 && in(v, 1, 4000)) {
            end = v;
            return was;
        }
        if (what == 1 && in(v, 0, 1)) {
            loose = v;
            return was;
        }
        return -1;
    }

    int call(int signal, int what, int v) {
        if (!isSignal(signal) || !in(what, 0, 1) || !in(v, 0, what == 0 ? 11 : 3)) {
            return -1;
        }
        int[] of = what == 0 ? name : group;
        int was = of[signal];
        of[signal] = v;
        return was;
    }

    int shift(int g, int k) {
        if (!in(g, 0, 3) || !in(k, -50, 50)) {
            return -1000;
        }
        int was = shift[g];
        shift[g] = k;
        return was;
    }

    private int putMask(int... m) {
        if (masks.size() == 10) {
            return -3;
        }
        masks.add(m);
        return masks.size();
    }

    int mask(int signal, int a, int b) {
        return !isSignal(signal) || !in(a, 0, 3999) || !in(b, 1, 4000) || a >= b ? -1 : putMask(signal, 0, a, b);
    }

    int maskWhile(int signal, int m, int value) {
        return !isSignal(signal) || !isSignal(m) || !in(value, 0, 256) ? -1 : putMask(signal, 1, m, value);
    }

    int noMasks() {
        int was = masks.size();
        masks.clear();
        return was;
    }

    private boolean masked(int signal, int tick) {
        for (int[] m : masks) {
            if (m[0] == signal && (m[1] == 0 ? in(tick, m[2], m[3] - 1) : at(0, m[2], tick) == m[3])) {
                return true;
            }
        }
        return false;
    }

    private boolean errs(int signal, int tick, int k) {
        return !masked(signal, tick) && !agree(at(0, signal, tick), at(1, name[signal], tick + k));
    }

    private List<int[]> spans(IntPredicate p, int least) {
        List<int[]> all = new ArrayList<>();
        int from = -1;
        for (int t = 0; t <= end; t++) {
            boolean is = t < end && p.test(t);
            if (is && from < 0) {
                from = t;
            }
            if (!is && from >= 0) {
                if (t - from >= least) {
                    all.add(new int[] {from, t});
                }
                from = -1;
            }
        }
        return all;
    }

    List<int[]> allDifferences() {
        List<int[]> all = new ArrayList<>();
        for (int s = 0; s < 12; s++) {
            int signal = s;
            for (int[] span : spans(t -> errs(signal, t, shift[group[signal]]), 1)) {
                all.add(new int[] {s, span[0], span[1]});
            }
        }
        return all;
    }

    int differences() {
        return allDifferences().size();
    }

    int difference(int i, int what) {
        if (i < 0 || !in(what, 0, 2)) {
            return -1;
        }
        List<int[]> all = allDifferences();
        return i < all.size() ? all.get(i)[what] : -4;
    }

    int first() {
        for (int t = 0; t < end; t++) {
            for (int s = 0; s < 12; s++) {
                if (errs(s, t, shift[group[s]])) {
                    return t;
                }
            }
        }
        return -4;
    }

    int channel(int c, int clock, int valid, int ready, int data) {
        if (!in(c, 0, 3) || !isSignal(clock) || !isSignal(valid) || !isSignal(ready) || !isSignal(data)) {
            return -1;
        }
        channels[c] = new int[] {clock, valid, ready, data};
        return 0;
    }

    private boolean isEdge(int run, int clock, int t) {
        return t > 0 && named(run, clock, t) == 1 && named(run, clock, t - 1) != 1;
    }

    private List<int[]> acts(int c, int run) {
        List<int[]> all = new ArrayList<>();
        int[] of = channels[c];
        for (int t = 1; t < end; t++) {
            if (isEdge(run, of[0], t) && named(run, of[1], t - 1) == 1 && named(run, of[2], t - 1) == 1) {
                all.add(new int[] {t, named(run, of[3], t - 1)});
            }
        }
        return all;
    }

    int act(int c, int run, int i, int what) {
        if (!in(c, 0, 3) || !in(run, 0, 1) || i < -1 || !in(what, 0, 1)) {
            return -1;
        }
        if (channels[c] == null) {
            return -2;
        }
        List<int[]> all = acts(c, run);
        return i == -1 ? all.size() : i < all.size() ? all.get(i)[what] : -4;
    }

    int unlike(int c) {
        if (!in(c, 0, 3)) {
            return -1;
        }
        if (channels[c] == null) {
            return -2;
        }
        List<int[]> a = acts(c, 0);
        List<int[]> b = acts(c, 1);
        for (int i = 0; i < Math.min(a.size(), b.size()); i++) {
            if (!agree(a.get(i)[1], b.get(i)[1])) {
                return i;
            }
        }
        return a.size() == b.size() ? -4 : Math.min(a.size(), b.size());
    }

    int fit(int g) {
        if (!in(g, 0, 3)) {
            return -1001;
        }
        List<Integer> of = new ArrayList<>();
        for (int s = 0; s < 12; s++) {
            if (group[s] == g) {
                of.add(s);
            }
        }
        if (of.isEmpty()) {
            return -1002;
        }
        int best = -1004;
        for (int k = -50; k <= 50; k++) {
            if (fits(of, k) && (best == -1004 || Math.abs(k) < Math.abs(best))) {
                best = k;
            }
        }
        return best;
    }

    private boolean fits(List<Integer> signals, int k) {
        boolean one = false;
        for (int t = 0; t < end; t++) {
            if (in(t + k, 0, end - 1)) {
                one = true;
                for (int s : signals) {
                    if (errs(s, t, k)) {
                        return false;
                    }
                }
            }
        }
        return one;
    }

    int gate(int signal, int kind, int a, int b) {
        if (!isSignal(signal) || !in(kind, 0, 6) || !isSignal(a) || kind > 0 && a == signal) {
            return -1;
        }
        if (kind > 1 && (!isSignal(b) || b == signal)) {
            return -1;
        }
        int was = gates[signal] == null ? 0 : gates[signal][0];
        gates[signal] = kind == 0 ? null : new int[] {kind, a, b};
        return was;
    }

    private boolean agreeAt(int signal, int t) {
        return agree(named(0, signal, t), named(1, signal, t));
    }

    private int edgeAt(int run, int clock, int tick) {
        for (int t = tick; t > 0; t--) {
            if (isEdge(run, clock, t)) {
                return t;
            }
        }
        return -1;
    }

    int guilty(int tick) {
        if (!in(tick, 0, end - 1)) {
            return -1;
        }
        for (int s = 0; s < 12; s++) {
            int[] g = gates[s];
            if (g == null || agreeAt(s, tick)) {
                continue;
            }
            boolean fine;
            if (g[0] == 6) {
                int e = edgeAt(0, g[2], tick);
                fine = e >= 0 && e == edgeAt(1, g[2], tick) && agreeAt(g[1], e - 1);
            } else {
                fine = agreeAt(g[1], tick) && (g[0] == 1 || agreeAt(g[2], tick));
            }
            if (fine) {
                return s;
            }
        }
        return -4;
    }

    int alike(int signal) {
        if (!isSignal(signal)) {
            return -1;
        }
        int bits = 0;
        for (int s = 0; s < 12; s++) {
            int other = s;
            if (spans(t -> !agree(at(0, signal, t), at(1, other, t)), 1).isEmpty()) {
                bits += 1 << s;
            }
        }
        return bits;
    }

    int holds(int run, int a, int v, int b, int w, int n, int i, int what) {
        if (!in(run, 0, 1) || !isSignal(a) || !in(v, 0, 256) || !isSignal(b) || !in(w, 0, 256)) {
            return -1;
        }
        if (!in(n, 1, 4000) || i < -1 || !in(what, 0, 1)) {
            return -1;
        }
        List<int[]> all = spans(t -> at(run, a, t) == v && (a == b || at(run, b, t) != w), n);
        return i == -1 ? all.size() : i < all.size() ? all.get(i)[what] : -4;
    }

    int window(int run, int signal, int a, int b, int what) {
        if (!in(run, 0, 1) || !isSignal(signal) || a < 0 || a >= b || b > end || !in(what, 0, 2)) {
            return -1;
        }
        int sum = 0;
        for (int t = a; t < b; t++) {
            int v = at(run, signal, t);
            if (what == 0) {
                sum += row(run, signal).containsKey(t) && v != at(run, signal, t - 1) ? 1 : 0;
            } else if (what == 1) {
                sum += v == 256 ? 1 : 0;
            } else {
                sum += v == 256 ? 0 : v;
            }
        }
        return sum;
    }

    int count(int what) {
        int sum = 0;
        switch (what) {
            case 0:
                for (TreeMap<Integer, Integer> r : rows) {
                    sum += r.size();
                }
                return sum;
            case 1:
                return masks.size();
            case 2:
                for (int[] c : channels) {
                    sum += c == null ? 0 : 1;
                }
                return sum;
            case 3:
                for (int[] g : gates) {
                    sum += g == null ? 0 : 1;
                }
                return sum;
            default:
                return -1;
        }
    }
}
