/**
 * Waves of two runs side by side: rows of changes, the spans in which they differ, and what follows from them.
 *
 * Everything is worked out from CHANGES, never tick by tick: a row has 50 of them at most, but 4000 ticks.
 */
public final class WavePairs {
    public static final int BAD = -1, NO = -2, FULL = -3, NONE = -4;

    private static final int RUNS = 2, SIGNALS = 12, GROUPS = 4, CHANNELS = 4;
    private static final int TICKS = 4000, END_AT_FIRST = 1000;
    private static final int NOT_KNOWN = 256;
    private static final int MOST_CHANGES = 50, MOST_MASKS = 10, MOST_SHIFT = 50;
    private static final int MOST_AT_ONCE = 4, BITS_EACH = 16, VALUE_BITS = 9;
    private static final int NO_GATE = 0, NOT_GATE = 1, STORE_GATE = 6;
    // SHIFTS go below 0, so the answers of shift and fit that refuse lie beyond them.
    private static final int SHIFT_BAD = -1000, FIT_BAD = -1001, FIT_NO = -1002, FIT_NONE = -1004;
    // Far enough behind every tick that a SHIFT taken from it still lies behind END.
    private static final int NEVER = 1000000;

    private final Row[] rows = new Row[RUNS * SIGNALS];
    private final int[] names = new int[SIGNALS];
    private final int[] groups = new int[SIGNALS];
    private final int[] shifts = new int[GROUPS];
    private final Mask[] masks = new Mask[MOST_MASKS];
    private final Channel[] channels = new Channel[CHANNELS];
    private final Gate[] gates = new Gate[SIGNALS];
    private final Spans spans = new Spans();
    private int maskCount = 0;
    private int end = END_AT_FIRST;
    private boolean loose = false;

    public WavePairs() {
        for (int i = 0; i < rows.length; i++) {
            rows[i] = new Row();
        }
        for (int signal = 0; signal < SIGNALS; signal++) {
            names[signal] = signal;
            gates[signal] = new Gate();
        }
        for (int i = 0; i < masks.length; i++) {
            masks[i] = new Mask();
        }
        for (int i = 0; i < channels.length; i++) {
            channels[i] = new Channel();
        }
    }

    // ---- rows of changes

    public int change(int run, int signal, int tick, int value) {
        if (isNoRow(run, signal) || outside(tick, 0, TICKS - 1) || isNoValue(value)) {
            return BAD;
        }
        Row row = rowOf(run, signal);
        if (row.lastTick() >= tick) {
            return NO;
        }
        if (row.lacksRoom(1)) {
            return FULL;
        }
        row.put(tick, value);
        return row.size();
    }

    public int changes(int run, int signal, int n, long v) {
        if (isNoRow(run, signal) || outside(n, 1, MOST_AT_ONCE)) {
            return BAD;
        }
        Row row = rowOf(run, signal);
        if (!areChanges(row.lastTick(), n, v)) {
            return BAD;
        }
        if (row.lacksRoom(n)) {
            return FULL;
        }
        for (int i = 0; i < n; i++) {
            row.put(row.lastTick() + packedTicks(n, v, i), packedValue(n, v, i));
        }
        return row.size();
    }

    public int cut(int run, int signal, int tick) {
        if (isNoRow(run, signal) || outside(tick, 0, TICKS - 1)) {
            return BAD;
        }
        return rowOf(run, signal).dropFrom(tick);
    }

    public int value(int run, int signal, int tick) {
        if (isNoRow(run, signal) || outside(tick, 0, TICKS - 1)) {
            return BAD;
        }
        return rowOf(run, signal).valueAt(tick);
    }

    private static boolean areChanges(int lastTick, int n, long v) {
        int tick = lastTick;
        for (int i = 0; i < n; i++) {
            int more = packedTicks(n, v, i);
            tick += more;
            if (more == 0 || tick >= TICKS || isNoValue(packedValue(n, v, i))) {
                return false;
            }
        }
        return true;
    }

    private static int packedTicks(int n, long v, int i) {
        return packed(n, v, i) >>> VALUE_BITS;
    }

    private static int packedValue(int n, long v, int i) {
        return packed(n, v, i) & ((1 << VALUE_BITS) - 1);
    }

    private static int packed(int n, long v, int i) {
        return (int) (v >>> (BITS_EACH * (n - 1 - i))) & ((1 << BITS_EACH) - 1);
    }

    // ---- rules, names, groups, shifts

    public int rule(int what, int v) {
        if (what == 0 && !outside(v, 1, TICKS)) {
            int was = end;
            end = v;
            return was;
        }
        if (what == 1 && !outside(v, 0, 1)) {
            int was = loose ? 1 : 0;
            loose = v == 1;
            return was;
        }
        return BAD;
    }

    public int call(int signal, int what, int v) {
        if (isNoSignal(signal)) {
            return BAD;
        }
        if (what == 0 && !isNoSignal(v)) {
            int was = names[signal];
            names[signal] = v;
            return was;
        }
        if (what == 1 && !outside(v, 0, GROUPS - 1)) {
            int was = groups[signal];
            groups[signal] = v;
            return was;
        }
        return BAD;
    }

    public int shift(int group, int k) {
        if (outside(group, 0, GROUPS - 1) || outside(k, -MOST_SHIFT, MOST_SHIFT)) {
            return SHIFT_BAD;
        }
        int was = shifts[group];
        shifts[group] = k;
        return was;
    }

    // ---- masks

    public int mask(int signal, int a, int b) {
        if (isNoSignal(signal) || a < 0 || a >= b || b > TICKS) {
            return BAD;
        }
        if (maskCount >= MOST_MASKS) {
            return FULL;
        }
        masks[maskCount].coverTicks(signal, a, b);
        maskCount++;
        return maskCount;
    }

    public int maskWhile(int signal, int m, int value) {
        if (isNoSignal(signal) || isNoSignal(m) || isNoValue(value)) {
            return BAD;
        }
        if (maskCount >= MOST_MASKS) {
            return FULL;
        }
        masks[maskCount].coverWhile(signal, rowOf(0, m), value);
        maskCount++;
        return maskCount;
    }

    public int noMasks() {
        int was = maskCount;
        maskCount = 0;
        return was;
    }

    // ---- differences

    public int differences() {
        int sum = 0;
        for (int signal = 0; signal < SIGNALS; signal++) {
            seekDifferences(signal, shifts[groups[signal]]);
            sum += spans.howMany(1, end);
        }
        return sum;
    }

    public int difference(int i, int what) {
        if (i < 0 || outside(what, 0, 2)) {
            return BAD;
        }
        int left = i;
        for (int signal = 0; signal < SIGNALS; signal++) {
            seekDifferences(signal, shifts[groups[signal]]);
            if (spans.find(left, 1, end)) {
                return what == 0 ? signal : spans.edgeFound(what - 1);
            }
            left -= spans.seen();
        }
        return NONE;
    }

    public int first() {
        int earliest = end;
        for (int signal = 0; signal < SIGNALS; signal++) {
            seekDifferences(signal, shifts[groups[signal]]);
            earliest = spans.start(0, earliest);
        }
        return earliest < end ? earliest : NONE;
    }

    /** Readies the spans in which a signal does not AGREE by a shift and no MASK of it is. */
    private void seekDifferences(int signal, int shift) {
        spans.clear();
        spans.take().wantUnlike(rowOf(0, signal), namedRow(1, signal), shift, loose);
        for (int i = 0; i < maskCount; i++) {
            Mask mask = masks[i];
            if (mask.signal == signal) {
                spans.take().wantValueNot(mask.row, mask.value);
            }
        }
    }

    // ---- channels

    public int channel(int channel, int clock, int valid, int ready, int data) {
        if (outside(channel, 0, CHANNELS - 1) || isNoSignal(clock) || isNoSignal(valid)
                || isNoSignal(ready) || isNoSignal(data)) {
            return BAD;
        }
        channels[channel].tell(clock, valid, ready, data);
        return 0;
    }

    public int act(int channel, int run, int i, int what) {
        if (outside(channel, 0, CHANNELS - 1) || outside(run, 0, RUNS - 1) || i < -1 || outside(what, 0, 1)) {
            return BAD;
        }
        Channel told = channels[channel];
        if (!told.isTold) {
            return NO;
        }
        int seen = 0;
        int edge = nextAct(told, run, 0);
        for (int step = 0; step < TICKS && edge != NONE; step++) {
            if (seen == i) {
                return what == 0 ? edge : dataAhead(told, run, edge);
            }
            seen++;
            edge = nextAct(told, run, edge);
        }
        return i == -1 ? seen : NONE;
    }

    public int unlike(int channel) {
        if (outside(channel, 0, CHANNELS - 1)) {
            return BAD;
        }
        Channel told = channels[channel];
        if (!told.isTold) {
            return NO;
        }
        int edge0 = nextAct(told, 0, 0);
        int edge1 = nextAct(told, 1, 0);
        for (int i = 0; i < TICKS && (edge0 != NONE || edge1 != NONE); i++) {
            if (edge0 == NONE || edge1 == NONE
                    || !agree(dataAhead(told, 0, edge0), dataAhead(told, 1, edge1), loose)) {
                return i;
            }
            edge0 = nextAct(told, 0, edge0);
            edge1 = nextAct(told, 1, edge1);
        }
        return NONE;
    }

    /** The tick of the first ACT behind a tick, or NONE. */
    private int nextAct(Channel channel, int run, int behind) {
        Row clock = namedRow(run, channel.clock);
        int edge = clock.nextEdge(behind, end);
        for (int step = 0; step < TICKS && edge != NONE; step++) {
            if (hadOneAhead(run, channel.valid, edge) && hadOneAhead(run, channel.ready, edge)) {
                return edge;
            }
            edge = clock.nextEdge(edge, end);
        }
        return NONE;
    }

    private boolean hadOneAhead(int run, int signal, int tick) {
        return namedRow(run, signal).valueAt(tick - 1) == 1;
    }

    private int dataAhead(Channel channel, int run, int tick) {
        return namedRow(run, channel.data).valueAt(tick - 1);
    }

    // ---- the shift that fits

    public int fit(int group) {
        if (outside(group, 0, GROUPS - 1)) {
            return FIT_BAD;
        }
        if (!hasSignals(group)) {
            return FIT_NO;
        }
        for (int size = 0; size <= MOST_SHIFT; size++) {
            if (fitsBy(group, -size)) {
                return -size;
            }
            if (fitsBy(group, size)) {
                return size;
            }
        }
        return FIT_NONE;
    }

    private boolean hasSignals(int group) {
        for (int signal = 0; signal < SIGNALS; signal++) {
            if (groups[signal] == group) {
                return true;
            }
        }
        return false;
    }

    private boolean fitsBy(int group, int k) {
        int from = Math.max(0, -k);
        int upTo = Math.min(end, end - k);
        if (from >= upTo) {
            return false;
        }
        for (int signal = 0; signal < SIGNALS; signal++) {
            if (groups[signal] == group) {
                seekDifferences(signal, k);
                if (spans.start(from, upTo) < upTo) {
                    return false;
                }
            }
        }
        return true;
    }

    // ---- the net

    public int gate(int signal, int kind, int a, int b) {
        if (isNoSignal(signal) || outside(kind, NO_GATE, STORE_GATE) || isNoSignal(a)) {
            return BAD;
        }
        // A signal that becomes no gate has no inputs, so it can't be one of itself.
        if (kind != NO_GATE && a == signal) {
            return BAD;
        }
        if (kind > NOT_GATE && (isNoSignal(b) || b == signal)) {
            return BAD;
        }
        int was = gates[signal].kind;
        // A b that is not looked at may be any number: only signals are kept.
        gates[signal].tell(kind, a, kind > NOT_GATE ? b : a);
        return was;
    }

    public int guilty(int tick) {
        if (outside(tick, 0, end - 1)) {
            return BAD;
        }
        for (int signal = 0; signal < SIGNALS; signal++) {
            Gate gate = gates[signal];
            if (gate.kind != NO_GATE && !agreeAt(signal, tick) && inputsAgree(gate, tick)) {
                return signal;
            }
        }
        return NONE;
    }

    private boolean inputsAgree(Gate gate, int tick) {
        if (gate.kind == STORE_GATE) {
            return storedAgree(gate, tick);
        }
        return agreeAt(gate.a, tick) && (gate.kind == NOT_GATE || agreeAt(gate.b, tick));
    }

    private boolean storedAgree(Gate gate, int tick) {
        int edge = namedRow(0, gate.b).latestEdge(tick);
        return edge != NONE && edge == namedRow(1, gate.b).latestEdge(tick) && agreeAt(gate.a, edge - 1);
    }

    private boolean agreeAt(int signal, int tick) {
        return agree(rowOf(0, signal).valueAt(tick), namedRow(1, signal).valueAt(tick), loose);
    }

    // ---- signals that behave alike, spans that hold, windows, counts

    public int alike(int signal) {
        if (isNoSignal(signal)) {
            return BAD;
        }
        int bits = 0;
        for (int other = 0; other < SIGNALS; other++) {
            spans.clear();
            spans.take().wantUnlike(rowOf(0, signal), rowOf(1, other), 0, loose);
            if (spans.start(0, end) >= end) {
                bits |= 1 << other;
            }
        }
        return bits;
    }

    public int holds(int run, int a, int v, int b, int w, int n, int i, int what) {
        if (isNoRow(run, a) || isNoValue(v) || isNoSignal(b) || isNoValue(w)) {
            return BAD;
        }
        if (outside(n, 1, TICKS) || i < -1 || outside(what, 0, 1)) {
            return BAD;
        }
        spans.clear();
        spans.take().wantValue(rowOf(run, a), v);
        if (b != a) {
            spans.take().wantValueNot(rowOf(run, b), w);
        }
        if (i == -1) {
            return spans.howMany(n, end);
        }
        return spans.find(i, n, end) ? spans.edgeFound(what) : NONE;
    }

    public int window(int run, int signal, int a, int b, int what) {
        if (isNoRow(run, signal) || a < 0 || a >= b || b > end || outside(what, 0, 2)) {
            return BAD;
        }
        Row row = rowOf(run, signal);
        if (what == 0) {
            return row.turns(a, b);
        }
        return what == 1 ? row.ticksNotKnown(a, b) : row.sumKnown(a, b);
    }

    public int count(int what) {
        switch (what) {
            case 0:
                return countChanges();
            case 1:
                return maskCount;
            case 2:
                return countChannels();
            case 3:
                return countGates();
            default:
                return BAD;
        }
    }

    private int countChanges() {
        int sum = 0;
        for (Row row : rows) {
            sum += row.size();
        }
        return sum;
    }

    private int countChannels() {
        int sum = 0;
        for (Channel channel : channels) {
            sum += channel.isTold ? 1 : 0;
        }
        return sum;
    }

    private int countGates() {
        int sum = 0;
        for (Gate gate : gates) {
            sum += gate.kind != NO_GATE ? 1 : 0;
        }
        return sum;
    }

    // ---- what all of them use

    private static boolean outside(int x, int least, int most) {
        return x < least || x > most;
    }

    private static boolean isNoSignal(int signal) {
        return outside(signal, 0, SIGNALS - 1);
    }

    private static boolean isNoRow(int run, int signal) {
        return outside(run, 0, RUNS - 1) || isNoSignal(signal);
    }

    private static boolean isNoValue(int value) {
        return outside(value, 0, NOT_KNOWN);
    }

    private static boolean agree(int value, int other, boolean loose) {
        return value == other || loose && (value == NOT_KNOWN || other == NOT_KNOWN);
    }

    private Row rowOf(int run, int signal) {
        return rows[run * SIGNALS + signal];
    }

    /** The row that stands in a run for a signal by RUN 0's numbers. */
    private Row namedRow(int run, int signal) {
        return run == 0 ? rowOf(0, signal) : rowOf(1, names[signal]);
    }

    /** CHANGES by rising ticks. An index ahead of the first stands for NOT KNOWN, one behind the last for never. */
    private static final class Row {
        private final int[] ticks = new int[MOST_CHANGES];
        private final int[] values = new int[MOST_CHANGES];
        private int size = 0;

        int size() {
            return size;
        }

        boolean lacksRoom(int more) {
            return size + more > MOST_CHANGES;
        }

        void put(int tick, int value) {
            if (size < MOST_CHANGES) {
                ticks[size] = tick;
                values[size] = value;
                size++;
            }
        }

        void clear() {
            size = 0;
        }

        int dropFrom(int tick) {
            int was = size;
            size = latest(tick - 1) + 1;
            return was - size;
        }

        int lastTick() {
            return tickOf(size - 1);
        }

        int tickOf(int i) {
            if (i < 0) {
                return -1;
            }
            return i < size ? ticks[i] : NEVER;
        }

        int valueOf(int i) {
            return i >= 0 && i < size ? values[i] : NOT_KNOWN;
        }

        int valueAt(int tick) {
            return valueOf(latest(tick));
        }

        /** The index of the latest CHANGE not behind a tick; -1 if there is none. */
        int latest(int tick) {
            int low = 0;
            int high = size;
            for (int step = 0; step <= MOST_CHANGES && low < high; step++) {
                int middle = (low + high) / 2;
                if (tickOf(middle) <= tick) {
                    low = middle + 1;
                } else {
                    high = middle;
                }
            }
            return low - 1;
        }

        /** At TICK 0 there is no edge, for there is no TICK ahead of it. */
        private boolean isEdge(int i) {
            return tickOf(i) > 0 && valueOf(i) == 1 && valueOf(i - 1) != 1;
        }

        /** The tick of the first edge behind a tick and ahead of another, or NONE. */
        int nextEdge(int behind, int ahead) {
            for (int i = latest(behind) + 1; i < size && tickOf(i) < ahead; i++) {
                if (isEdge(i)) {
                    return tickOf(i);
                }
            }
            return NONE;
        }

        /** The tick of the latest edge not behind a tick, or NONE. */
        int latestEdge(int tick) {
            for (int i = latest(tick); i >= 0; i--) {
                if (isEdge(i)) {
                    return tickOf(i);
                }
            }
            return NONE;
        }

        /** How many CHANGES from a on, up to b, are to another VALUE. */
        int turns(int a, int b) {
            int sum = 0;
            for (int i = latest(a - 1) + 1; i < size && tickOf(i) < b; i++) {
                sum += valueOf(i) != valueOf(i - 1) ? 1 : 0;
            }
            return sum;
        }

        int ticksNotKnown(int a, int b) {
            int sum = 0;
            for (int i = latest(a); i < size && tickOf(i) < b; i++) {
                sum += valueOf(i) == NOT_KNOWN ? ticksWithin(i, a, b) : 0;
            }
            return sum;
        }

        int sumKnown(int a, int b) {
            int sum = 0;
            for (int i = latest(a); i < size && tickOf(i) < b; i++) {
                sum += valueOf(i) != NOT_KNOWN ? valueOf(i) * ticksWithin(i, a, b) : 0;
            }
            return sum;
        }

        /** For how many ticks from a on, up to b, CHANGE i is the latest. */
        private int ticksWithin(int i, int a, int b) {
            return Math.min(b, tickOf(i + 1)) - Math.max(a, tickOf(i));
        }
    }

    /** Two rows side by side, and whether they are wanted alike or unlike. */
    private static final class Pair {
        // A VALUE that is asked for is a row too: one walk then serves every question.
        private final Row steady = new Row();
        private Row left = steady;
        private Row right = steady;
        private int lag = 0;
        private boolean isLoose = false;
        private boolean wantsAlike = true;

        void wantUnlike(Row row, Row other, int shift, boolean loosely) {
            left = row;
            right = other;
            lag = shift;
            isLoose = loosely;
            wantsAlike = false;
        }

        void wantValue(Row row, int value) {
            steady.clear();
            steady.put(0, value);
            left = row;
            right = steady;
            lag = 0;
            isLoose = false;
            wantsAlike = true;
        }

        void wantValueNot(Row row, int value) {
            wantValue(row, value);
            wantsAlike = false;
        }

        /** The first tick from a tick on at which the rows are as wanted (or are not); end if there is none. */
        int nextTick(int from, int end, boolean asWanted) {
            boolean seeksAlike = wantsAlike == asWanted;
            int i = left.latest(from);
            int j = right.latest(from + lag);
            int tick = from;
            for (int step = 0; step <= 2 * MOST_CHANGES && tick < end; step++) {
                if (agree(left.valueOf(i), right.valueOf(j), isLoose) == seeksAlike) {
                    return tick;
                }
                int nextLeft = left.tickOf(i + 1);
                int nextRight = right.tickOf(j + 1) - lag;
                tick = Math.min(nextLeft, nextRight);
                i += nextLeft == tick ? 1 : 0;
                j += nextRight == tick ? 1 : 0;
            }
            return end;
        }
    }

    /** Spans of ticks, as long as they go, in which all pairs taken are as wanted. */
    private static final class Spans {
        private final Pair[] pairs = new Pair[MOST_MASKS + 1];
        private int size = 0;
        private int seen = 0;
        private int from = 0;
        private int upTo = 0;

        Spans() {
            for (int i = 0; i < pairs.length; i++) {
                pairs[i] = new Pair();
            }
        }

        void clear() {
            size = 0;
        }

        /** One pair more, for the caller to say what it wants of it. */
        Pair take() {
            int i = Math.min(size, pairs.length - 1);
            size = i + 1;
            return pairs[i];
        }

        /** The first tick from a tick on at which all pairs are as wanted; end if there is none. */
        int start(int tick, int end) {
            int found = tick;
            for (int step = 0; step <= TICKS && found < end; step++) {
                int before = found;
                for (int i = 0; i < size && found < end; i++) {
                    found = pairs[i].nextTick(found, end, true);
                }
                if (found == before) {
                    return found;
                }
            }
            return end;
        }

        private int stop(int tick, int end) {
            int found = end;
            for (int i = 0; i < size; i++) {
                found = pairs[i].nextTick(tick, found, false);
            }
            return found;
        }

        /** Whether there is span i of those of some ticks at least. If not, seen tells how many there are. */
        boolean find(int i, int least, int end) {
            seen = 0;
            from = start(0, end);
            for (int step = 0; step <= TICKS && from < end; step++) {
                upTo = stop(from, end);
                if (upTo - from >= least) {
                    if (seen == i) {
                        return true;
                    }
                    seen++;
                }
                from = start(upTo, end);
            }
            return false;
        }

        int howMany(int least, int end) {
            find(-1, least, end);
            return seen;
        }

        int seen() {
            return seen;
        }

        /** Of the span that was found: 0 from, 1 up to. */
        int edgeFound(int what) {
            return what == 0 ? from : upTo;
        }
    }

    /** A signal of RUN 0, masked while a row has a VALUE. */
    private static final class Mask {
        private final Row ticks = new Row();
        private int signal = 0;
        private Row row = ticks;
        private int value = 1;

        void coverTicks(int masked, int a, int b) {
            ticks.clear();
            ticks.put(a, 1);
            ticks.put(b, 0);
            coverWhile(masked, ticks, 1);
        }

        void coverWhile(int masked, Row other, int wanted) {
            signal = masked;
            row = other;
            value = wanted;
        }
    }

    private static final class Channel {
        private boolean isTold = false;
        private int clock = 0;
        private int valid = 0;
        private int ready = 0;
        private int data = 0;

        void tell(int clockSignal, int validSignal, int readySignal, int dataSignal) {
            isTold = true;
            clock = clockSignal;
            valid = validSignal;
            ready = readySignal;
            data = dataSignal;
        }
    }

    private static final class Gate {
        private int kind = NO_GATE;
        private int a = 0;
        private int b = 0;

        void tell(int newKind, int newA, int newB) {
            kind = newKind;
            a = newA;
            b = newB;
        }
    }
}
