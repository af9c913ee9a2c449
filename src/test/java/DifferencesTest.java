/** Promises 12 to 14: differences, difference, first. */
public final class DifferencesTest {
    private static final Check check = new Check();

    public static void main(String[] args) {
        spans();
        firstAndLastTick();
        longRows();
        bySignals();
        shifts();
        loose();
        refusals();
        check.end();
    }

    private static void one(String what, WavePairs x, int i, int signal, int from, int upTo) {
        check.due(what + ": signal", x.difference(i, 0), signal);
        check.due(what + ": from", x.difference(i, 1), from);
        check.due(what + ": up to", x.difference(i, 2), upTo);
    }

    private static void spans() {
        WavePairs x = new WavePairs();
        x.rule(0, 100);
        // From 10 to 30 both change, but never to like values: one span.
        Check.row(x, 0, 6, 0, 1, 10, 2, 15, 3, 20, 4, 30, 5, 60, 6);
        Check.row(x, 1, 6, 0, 1, 10, 9, 17, 2, 20, 3, 30, 5, 99, 6);
        check.due("12 two spans", x.differences(), 2);
        one("13 the long one", x, 0, 6, 10, 30);
        one("13 the next one", x, 1, 6, 60, 99);
        check.due("13 NONE", x.difference(2, 0), WavePairs.NONE);
        check.due("14 first", x.first(), 10);
        x.cut(1, 6, 99);
        one("13 to END", x, 1, 6, 60, 100);
        x.rule(0, 61);
        one("13 one TICK", x, 1, 6, 60, 61);
        x.rule(0, 60);
        check.due("12 END cuts it away", x.differences(), 1);
        x.rule(0, 10);
        check.due("12 END cuts all away", x.differences(), 0);
        check.due("14 NONE", x.first(), WavePairs.NONE);
    }

    private static void firstAndLastTick() {
        WavePairs x = new WavePairs();
        x.rule(0, 4000);
        Check.row(x, 0, 7, 0, 1, 1, 256, 3999, 2);
        check.due("12 two", x.differences(), 2);
        one("13 TICK 0", x, 0, 7, 0, 1);
        one("13 TICK 3999", x, 1, 7, 3999, 4000);
        check.due("13 no third", x.difference(2, 1), WavePairs.NONE);
        check.due("14 TICK 0", x.first(), 0);
        x.cut(0, 7, 0);
        x.change(0, 7, 3999, 2);
        check.due("14 TICK 3999", x.first(), 3999);
        x.rule(0, 3999);
        check.due("14 NONE ahead of END", x.first(), WavePairs.NONE);
        check.due("12 none ahead of END", x.differences(), 0);
    }

    /** Rows that are FULL and change at no TICK both, but to VALUES that AGREE: only the last CHANGE tells. */
    private static void longRows() {
        for (int late = 0; late < 2; late++) {
            WavePairs x = new WavePairs();
            for (int i = 0; i < 50; i++) {
                x.change(0, 5, 1 + 2 * i, i == 49 && late == 0 ? 7 : 256);
                x.change(1, 5, 2 + 2 * i, i == 49 && late == 1 ? 7 : 256);
            }
            check.due("12 one", x.differences(), 1);
            one("13 from the last CHANGE on", x, 0, 5, 99 + late, 1000);
            check.due("14 the last CHANGE", x.first(), 99 + late);
            check.due("21 unlike by the last CHANGE", x.alike(5), 4095 & ~(1 << 5) & (late == 0 ? 0 : 4095));
        }
    }

    private static void bySignals() {
        WavePairs x = new WavePairs();
        x.rule(0, 50);
        Check.row(x, 0, 11, 3, 1);
        Check.row(x, 1, 0, 30, 1, 31, 256, 40, 1);
        check.due("12 of two signals", x.differences(), 3);
        one("13 by numbers", x, 0, 0, 30, 31);
        one("13 by TICKS", x, 1, 0, 40, 50);
        one("13 the last signal", x, 2, 11, 3, 50);
        check.due("14 first of all", x.first(), 3);
        check.due("13 NONE", x.difference(3, 2), WavePairs.NONE);
        x.call(0, 0, 1);
        check.due("12 a name that is another", x.differences(), 1);
        x.call(5, 0, 0);
        one("13 of RUN 0's number", x, 0, 5, 30, 31);
        check.due("14 through names", x.first(), 3);
    }

    private static void shifts() {
        WavePairs x = new WavePairs();
        x.rule(0, 50);
        x.call(2, 1, 1);
        Check.row(x, 0, 2, 0, 7, 10, 8);
        Check.row(x, 1, 2, 0, 7, 12, 8);
        one("12 no shift", x, 0, 2, 10, 12);
        x.shift(1, 2);
        check.due("12 the shift of its group", x.differences(), 0);
        x.shift(0, 5);
        check.due("12 not of another", x.differences(), 0);
        x.shift(1, -3);
        check.due("12 the other way", x.differences(), 2);
        one("13 ahead of 0 is NOT KNOWN", x, 0, 2, 0, 3);
        one("13 the rest", x, 1, 2, 10, 15);
        check.due("14 with shifts", x.first(), 0);
        x.change(1, 2, 52, 9);
        x.shift(1, 3);
        check.due("12 behind END the row tells", x.differences(), 2);
        one("13 ahead", x, 0, 2, 9, 10);
        one("13 behind END - 1", x, 1, 2, 49, 50);
        x.rule(0, 4000);
        x.shift(1, 50);
        x.change(1, 2, 3999, 10);
        x.change(0, 2, 3949, 10);
        check.due("12 beyond the last TICK of all", x.differences(), 1);
        one("13 beyond the last TICK of all the row tells", x, 0, 2, 0, 3949);
    }

    private static void loose() {
        WavePairs x = new WavePairs();
        x.rule(0, 50);
        Check.row(x, 0, 0, 5, 1, 20, 256, 30, 4);
        Check.row(x, 1, 0, 10, 2, 40, 256);
        check.due("12 strict", x.differences(), 1);
        one("13 strict", x, 0, 0, 5, 50);
        x.rule(1, 1);
        check.due("12 loose", x.differences(), 2);
        one("13 loose", x, 0, 0, 10, 20);
        one("13 loose", x, 1, 0, 30, 40);
        check.due("14 loose", x.first(), 10);
        x.call(0, 1, 2);
        x.shift(2, -50);
        check.due("12 ahead of 0 agrees loosely", x.differences(), 0);
    }

    private static void refusals() {
        WavePairs x = new WavePairs();
        check.due("13 BAD i", x.difference(-1, 0), WavePairs.BAD);
        check.due("13 BAD i", x.difference(Integer.MIN_VALUE, 0), WavePairs.BAD);
        check.due("13 BAD what", x.difference(0, -1), WavePairs.BAD);
        check.due("13 BAD what ahead of NONE", x.difference(0, 3), WavePairs.BAD);
        check.due("13 NONE", x.difference(Integer.MAX_VALUE, 2), WavePairs.NONE);
        check.due("14 NONE", x.first(), WavePairs.NONE);
        Check.row(x, 0, 3, 999, 1);
        check.due("14 the last TICK", x.first(), 999);
        x.mask(3, 999, 1000);
        check.due("14 masked", x.first(), WavePairs.NONE);
    }
}
