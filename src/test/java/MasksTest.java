/** Promises 9 to 11: mask, maskWhile, noMasks. */
public final class MasksTest {
    private static final Check check = new Check();

    public static void main(String[] args) {
        mask();
        maskWhile();
        full();
        noMasks();
        check.end();
    }

    private static WavePairs oneLongDifference() {
        WavePairs x = new WavePairs();
        x.rule(0, 100);
        Check.row(x, 0, 4, 10, 1);
        return x;
    }

    private static void span(String what, WavePairs x, int i, int from, int upTo) {
        check.due(what + ": from", x.difference(i, 1), from);
        check.due(what + ": up to", x.difference(i, 2), upTo);
    }

    private static void mask() {
        WavePairs x = oneLongDifference();
        check.due("9 BAD empty", x.mask(4, 20, 20), WavePairs.BAD);
        check.due("9 BAD turned", x.mask(4, 21, 20), WavePairs.BAD);
        check.due("9 BAD below", x.mask(4, -1, 20), WavePairs.BAD);
        check.due("9 BAD beyond", x.mask(4, 0, 4001), WavePairs.BAD);
        check.due("9 BAD signal", x.mask(12, 0, 1), WavePairs.BAD);
        check.due("9 BAD signal below", x.mask(-1, 0, 1), WavePairs.BAD);
        check.due("9 BAD puts none", x.count(1), 0);
        check.due("9 in the middle", x.mask(4, 20, 30), 1);
        check.due("9 splits", x.differences(), 2);
        span("9 left", x, 0, 10, 20);
        span("9 right", x, 1, 30, 100);
        check.due("9 another signal's", x.mask(5, 0, 4000), 2);
        check.due("9 does nothing to it", x.differences(), 2);
        check.due("9 next to it, to END", x.mask(4, 30, 4000), 3);
        check.due("9 cuts the right one", x.differences(), 1);
        check.due("9 overlapping", x.mask(4, 0, 25), 4);
        check.due("9 all masked", x.differences(), 0);
        check.due("9 first too", x.first(), WavePairs.NONE);
        WavePairs y = oneLongDifference();
        check.due("9 last TICK", y.mask(4, 3999, 4000), 1);
        check.due("9 first TICK of it", y.mask(4, 10, 11), 2);
        span("9 one TICK less", y, 0, 11, 100);
        check.due("9 first behind a mask", y.first(), 11);
    }

    private static void maskWhile() {
        WavePairs x = oneLongDifference();
        // The mask looks at RUN 0 alone: RUN 1 has another row there.
        Check.row(x, 0, 7, 20, 3, 30, 3, 40, 256, 50, 3, 60, 0);
        Check.row(x, 1, 7, 20, 3, 30, 3, 40, 256, 50, 3, 60, 0);
        check.due("10 BAD signal", x.maskWhile(12, 7, 3), WavePairs.BAD);
        check.due("10 BAD signal below", x.maskWhile(-1, 7, 3), WavePairs.BAD);
        check.due("10 BAD m", x.maskWhile(4, 12, 3), WavePairs.BAD);
        check.due("10 BAD m below", x.maskWhile(4, -1, 3), WavePairs.BAD);
        check.due("10 BAD value", x.maskWhile(4, 7, 257), WavePairs.BAD);
        check.due("10 BAD value below", x.maskWhile(4, 7, -1), WavePairs.BAD);
        check.due("10 while 3", x.maskWhile(4, 7, 3), 1);
        check.due("10 leaves three", x.differences(), 3);
        span("10 ahead", x, 0, 10, 20);
        span("10 between", x, 1, 40, 50);
        span("10 behind", x, 2, 60, 100);
        check.due("10 while not known", x.maskWhile(4, 7, 256), 2);
        check.due("10 leaves one", x.differences(), 1);
        span("10 last", x, 0, 60, 100);
        x.cut(0, 7, 60);
        x.cut(1, 7, 60);
        check.due("10 it follows the row", x.differences(), 0);
        x.call(7, 0, 8);
        check.due("10 names count for nothing in it", x.difference(0, 0), 7);
        check.due("10 by itself", x.maskWhile(7, 7, 3), 3);
        check.due("10 masked by itself", x.differences(), 0);
        WavePairs y = oneLongDifference();
        y.shift(0, 5);
        Check.row(y, 0, 7, 20, 3, 30, 4);
        Check.row(y, 1, 7, 25, 3, 35, 4);
        y.maskWhile(4, 7, 3);
        span("10 at RUN 0's TICK whatever the shift", y, 0, 10, 20);
        span("10 and behind it", y, 1, 30, 100);
    }

    private static void full() {
        WavePairs x = new WavePairs();
        for (int i = 0; i < 5; i++) {
            check.due("9 counts", x.mask(0, i, i + 1), 2 * i + 1);
            check.due("10 counts", x.maskWhile(0, 1, i), 2 * i + 2);
        }
        check.due("9 FULL", x.mask(0, 0, 1), WavePairs.FULL);
        check.due("10 FULL", x.maskWhile(0, 1, 1), WavePairs.FULL);
        check.due("9 BAD ahead of FULL", x.mask(0, 1, 1), WavePairs.BAD);
        check.due("10 BAD ahead of FULL", x.maskWhile(0, 1, 257), WavePairs.BAD);
        check.due("9 still ten", x.count(1), 10);
        WavePairs y = oneLongDifference();
        for (int i = 0; i < 10; i++) {
            y.mask(4, 98 - 9 * i, 99 - 9 * i);
        }
        check.due("9 all ten of one signal count", y.differences(), 11);
        span("9 the last told", y, 0, 10, 17);
        span("9 the first told", y, 10, 99, 100);
    }

    private static void noMasks() {
        WavePairs x = oneLongDifference();
        check.due("11 none", x.noMasks(), 0);
        x.mask(4, 0, 4000);
        x.maskWhile(4, 4, 1);
        check.due("11 masked", x.differences(), 0);
        check.due("11 two", x.noMasks(), 2);
        check.due("11 gone", x.count(1), 0);
        check.due("11 it differs again", x.differences(), 1);
        check.due("11 a slot is clean when used again", x.mask(4, 20, 21), 1);
        span("11 of ticks", x, 0, 10, 20);
        x.noMasks();
        x.maskWhile(4, 4, 256);
        span("11 while", x, 0, 10, 100);
    }
}
