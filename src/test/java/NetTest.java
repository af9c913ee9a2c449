/** Promises 19 and 20: gate, guilty. */
public final class NetTest {
    private static final Check check = new Check();

    public static void main(String[] args) {
        gate();
        noneOfItself();
        guiltyByKinds();
        guiltyOrder();
        loose();
        store();
        storeEdges();
        storeFirstTicks();
        firstAndLastTick();
        check.end();
    }

    private static void gate() {
        WavePairs x = new WavePairs();
        for (int kind = 1; kind <= 6; kind++) {
            check.due("19 kind that was", x.gate(5, kind, 0, 11), kind - 1);
        }
        check.due("19 BAD kind", x.gate(5, 7, 0, 1), WavePairs.BAD);
        check.due("19 BAD kind below", x.gate(5, -1, 0, 1), WavePairs.BAD);
        check.due("19 BAD signal", x.gate(12, 1, 0, 1), WavePairs.BAD);
        check.due("19 BAD signal below", x.gate(-1, 1, 0, 1), WavePairs.BAD);
        for (int kind = 1; kind <= 6; kind++) {
            check.due("19 BAD a", x.gate(5, kind, 12, 1), WavePairs.BAD);
            check.due("19 BAD a below", x.gate(5, kind, -1, 1), WavePairs.BAD);
            check.due("19 of itself, a", x.gate(5, kind, 5, 1), WavePairs.BAD);
            if (kind > 1) {
                check.due("19 BAD b", x.gate(5, kind, 0, 12), WavePairs.BAD);
                check.due("19 BAD b below", x.gate(5, kind, 0, -1), WavePairs.BAD);
                check.due("19 of itself, b", x.gate(5, kind, 0, 5), WavePairs.BAD);
            }
        }
        check.due("19 BAD a, kind 0", x.gate(5, 0, 12, 1), WavePairs.BAD);
        check.due("19 BAD a below, kind 0", x.gate(5, 0, -1, 1), WavePairs.BAD);
        check.due("19 refusals leave it", x.gate(5, 1, 0, 5), 6);
        check.due("19 b is not looked at for 1", x.gate(5, 1, 0, 99), 1);
        check.due("19 one gate", x.count(3), 1);
        check.due("19 b is not looked at for 0", x.gate(5, 0, 0, -7), 1);
        check.due("19 no gate", x.count(3), 0);
        check.due("19 a and b may be one", x.gate(5, 2, 4, 4), 0);
        check.due("19 in a ring", x.gate(4, 2, 5, 5), 0);
        check.due("20 of a ring none", x.guilty(0), WavePairs.NONE);
    }

    /** Kind 0 is a GATE of nothing, so its own number is as good as another one. */
    private static void noneOfItself() {
        for (int signal = 0; signal < 12; signal++) {
            WavePairs x = new WavePairs();
            int other = (signal + 1) % 12;
            check.due("19 none, a its own number", x.gate(signal, 0, signal, other), 0);
            check.due("19 none, a and b its own number", x.gate(signal, 0, signal, signal), 0);
            check.due("19 still no gate", x.count(3), 0);
            for (int kind = 1; kind <= 6; kind++) {
                check.due("19 none was told", x.gate(signal, kind, other, other), 0);
                check.due("19 a gate", x.count(3), 1);
                check.due("19 none, by its own number", x.gate(signal, 0, signal, signal), kind);
                check.due("19 a gate no more", x.count(3), 0);
                check.due("19 of itself still", x.gate(signal, kind, signal, other), WavePairs.BAD);
            }
            Check.row(x, 0, signal, 5, 1);
            check.due("20 no gate, none guilty", x.guilty(5), WavePairs.NONE);
        }
    }

    private static void guiltyByKinds() {
        for (int kind = 1; kind <= 5; kind++) {
            WavePairs x = new WavePairs();
            x.rule(0, 100);
            Check.row(x, 0, 7, 20, 1, 30, 2);
            Check.row(x, 1, 7, 20, 3, 30, 2);
            check.due("20 no gate, none guilty", x.guilty(20), WavePairs.NONE);
            x.gate(7, kind, 1, 2);
            check.due("20 ahead", x.guilty(19), WavePairs.NONE);
            check.due("20 at", x.guilty(20), 7);
            check.due("20 still", x.guilty(29), 7);
            check.due("20 behind", x.guilty(30), WavePairs.NONE);
            Check.row(x, 0, 1, 25, 5, 26, 256);
            check.due("20 a errs ahead of it", x.guilty(25), WavePairs.NONE);
            check.due("20 a only there", x.guilty(24), 7);
            Check.row(x, 0, 2, 22, 5, 23, 256);
            check.due("20 b errs", x.guilty(22), kind == 1 ? 7 : WavePairs.NONE);
            x.shift(0, 3);
            x.mask(7, 0, 4000);
            x.mask(1, 0, 4000);
            check.due("20 no shifts, no masks", x.guilty(20), 7);
            check.due("20 no shifts, no masks", x.guilty(25), WavePairs.NONE);
            x.call(1, 0, 9);
            Check.row(x, 1, 9, 25, 5, 26, 256);
            check.due("20 a by name", x.guilty(25), 7);
            x.call(7, 0, 10);
            check.due("20 itself by name", x.guilty(35), 7);
            x.call(7, 0, 7);
            x.gate(7, 0, 1, 2);
            check.due("20 a gate no more", x.guilty(20), WavePairs.NONE);
        }
    }

    private static void guiltyOrder() {
        WavePairs x = new WavePairs();
        x.rule(0, 100);
        check.due("20 BAD at END", x.guilty(100), WavePairs.BAD);
        check.due("20 BAD below", x.guilty(-1), WavePairs.BAD);
        check.due("20 BAD far", x.guilty(Integer.MAX_VALUE), WavePairs.BAD);
        check.due("20 the last TICK", x.guilty(99), WavePairs.NONE);
        Check.row(x, 0, 3, 5, 1);
        Check.row(x, 0, 8, 5, 1);
        Check.row(x, 0, 11, 5, 1);
        x.gate(3, 2, 8, 0);
        x.gate(8, 1, 11, 0);
        x.gate(11, 3, 0, 1);
        check.due("20 led back through two", x.guilty(99), 11);
        x.gate(8, 1, 0, 0);
        check.due("20 the first by numbers", x.guilty(99), 8);
        x.gate(3, 2, 1, 2);
        check.due("20 the first by numbers", x.guilty(99), 3);
    }

    private static void loose() {
        WavePairs x = new WavePairs();
        Check.row(x, 0, 3, 5, 1, 10, 2);
        Check.row(x, 1, 3, 10, 3);
        Check.row(x, 0, 0, 10, 4);
        x.gate(3, 2, 0, 1);
        check.due("20 strict", x.guilty(5), 3);
        check.due("20 strict, input errs", x.guilty(10), WavePairs.NONE);
        x.rule(1, 1);
        check.due("20 loose, it agrees", x.guilty(5), WavePairs.NONE);
        check.due("20 loose, input agrees", x.guilty(10), 3);
    }

    /** Signal 2 stores 1 by clock 0; edges at 10, 30; the two runs store other values from 30 on. */
    private static WavePairs stored() {
        WavePairs x = new WavePairs();
        x.rule(0, 100);
        for (int run = 0; run < 2; run++) {
            Check.row(x, run, 0, 0, 0, 10, 1, 20, 0, 30, 1, 40, 0);
            Check.row(x, run, 2, 10, 5, 30, 6 + run);
        }
        Check.row(x, 0, 1, 0, 5, 29, 6, 30, 1);
        Check.row(x, 1, 1, 0, 5, 29, 6, 30, 2);
        x.gate(2, 6, 1, 0);
        return x;
    }

    private static void store() {
        WavePairs x = stored();
        check.due("20 agrees", x.guilty(29), WavePairs.NONE);
        check.due("20 at the edge, a at the TICK ahead", x.guilty(30), 2);
        check.due("20 long behind it", x.guilty(99), 2);
        x.cut(1, 1, 29);
        check.due("20 a errs at the TICK ahead", x.guilty(99), WavePairs.NONE);
        x.change(1, 1, 30, 2);
        check.due("20 a errs at the TICK ahead", x.guilty(99), WavePairs.NONE);
        WavePairs y = stored();
        y.cut(1, 0, 30);
        check.due("20 edges at two TICKS", y.guilty(99), WavePairs.NONE);
        y.change(1, 0, 31, 1);
        check.due("20 edges at two TICKS", y.guilty(99), WavePairs.NONE);
        check.due("20 RUN 1's edge is behind that TICK", y.guilty(30), WavePairs.NONE);
        y.call(0, 0, 9);
        Check.row(y, 1, 9, 3, 1, 4, 9, 30, 1);
        check.due("20 clock by name", y.guilty(99), 2);
        y.call(1, 0, 8);
        check.due("20 a by name", y.guilty(99), WavePairs.NONE);
        Check.row(y, 1, 8, 29, 6);
        check.due("20 a by name", y.guilty(99), 2);
    }

    private static void storeEdges() {
        WavePairs x = new WavePairs();
        Check.row(x, 0, 2, 0, 1);
        x.gate(2, 6, 1, 0);
        check.due("20 no edge at all", x.guilty(5), WavePairs.NONE);
        Check.row(x, 0, 0, 0, 1);
        Check.row(x, 1, 0, 0, 1);
        check.due("20 no TICK ahead of 0, so no edge", x.guilty(5), WavePairs.NONE);
        x.change(0, 0, 3, 1);
        x.change(1, 0, 3, 1);
        check.due("20 to the like value is none", x.guilty(5), WavePairs.NONE);
        x.change(0, 0, 4, 256);
        x.change(0, 0, 5, 1);
        x.change(1, 0, 4, 2);
        x.change(1, 0, 5, 1);
        check.due("20 from NOT KNOWN and from 2", x.guilty(5), 2);
        check.due("20 ahead of it", x.guilty(4), WavePairs.NONE);
        x.cut(0, 0, 0);
        x.cut(1, 0, 0);
        x.change(0, 0, 1, 1);
        x.change(1, 0, 1, 1);
        check.due("20 the first change, ahead NOT KNOWN", x.guilty(1), 2);
        check.due("20 ahead of the first change", x.guilty(0), WavePairs.NONE);
    }

    /** The earliest edge is at TICK 1: a is held against a at TICK 0. */
    private static void storeFirstTicks() {
        WavePairs x = new WavePairs();
        for (int run = 0; run < 2; run++) {
            Check.row(x, run, 0, 1, 1);
            Check.row(x, run, 1, 0, 5, 1, 6 + run);
            Check.row(x, run, 2, 1, 7 + run);
        }
        x.gate(2, 6, 1, 0);
        check.due("20 a at TICK 0 agrees", x.guilty(1), 2);
        x.cut(1, 1, 0);
        x.change(1, 1, 1, 6);
        check.due("20 a at TICK 0 does not", x.guilty(1), WavePairs.NONE);
        x.rule(1, 1);
        check.due("20 loose, it does", x.guilty(1), 2);
    }

    private static void firstAndLastTick() {
        WavePairs x = new WavePairs();
        x.rule(0, 4000);
        Check.row(x, 0, 0, 0, 1, 1, 256, 3999, 1);
        x.gate(0, 2, 1, 11);
        check.due("20 TICK 0", x.guilty(0), 0);
        check.due("20 TICK 1", x.guilty(1), WavePairs.NONE);
        check.due("20 TICK 3998", x.guilty(3998), WavePairs.NONE);
        check.due("20 TICK 3999", x.guilty(3999), 0);
        check.due("20 TICK 4000", x.guilty(4000), WavePairs.BAD);
        x.rule(0, 3999);
        check.due("20 at END", x.guilty(3999), WavePairs.BAD);
        check.due("20 ahead of END", x.guilty(3998), WavePairs.NONE);
        WavePairs y = new WavePairs();
        Check.row(y, 1, 11, 0, 1);
        y.gate(11, 5, 0, 1);
        check.due("20 the last SIGNAL", y.guilty(0), 11);
        y.gate(11, 0, 11, 11);
        check.due("20 no GATE any more", y.guilty(0), WavePairs.NONE);
    }
}
