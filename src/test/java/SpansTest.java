/** Promises 21 to 24: alike, holds, window, count. */
public final class SpansTest {
    private static final Check check = new Check();

    public static void main(String[] args) {
        alike();
        alikeFirstAndLast();
        holds();
        holdsAtLeast();
        holdsFirstAndLast();
        askedByTurns();
        holdsRefuse();
        window();
        windowFirstAndLast();
        count();
        countMost();
        check.end();
    }

    private static void alike() {
        WavePairs x = new WavePairs();
        x.rule(0, 100);
        Check.row(x, 0, 3, 0, 1, 50, 2);
        Check.row(x, 1, 0, 0, 1, 20, 1, 50, 2);
        Check.row(x, 1, 5, 0, 1, 50, 2, 99, 3);
        Check.row(x, 1, 6, 0, 1, 50, 256);
        Check.row(x, 1, 11, 0, 1, 50, 2, 100, 3);
        check.due("21 by values, to END", x.alike(3), 1 | 1 << 11);
        check.due("21 the silent ones", x.alike(0), 4095 & ~(1 | 1 << 5 | 1 << 6 | 1 << 11));
        x.rule(0, 101);
        check.due("21 END further on", x.alike(3), 1);
        x.rule(0, 99);
        check.due("21 END ahead", x.alike(3), 1 | 1 << 5 | 1 << 11);
        x.call(3, 0, 6);
        x.shift(0, 5);
        x.mask(3, 0, 4000);
        check.due("21 names, shifts, masks count for nothing", x.alike(3), 1 | 1 << 5 | 1 << 11);
        x.rule(1, 1);
        check.due("21 loose", x.alike(3), 4095);
        x.change(1, 6, 60, 3);
        check.due("21 loose", x.alike(3), 4095 & ~(1 << 6));
        check.due("21 BAD", x.alike(12), WavePairs.BAD);
        check.due("21 BAD below", x.alike(-1), WavePairs.BAD);
    }

    /** "AGREE at all TICKS": one TICK is enough to be unlike. */
    private static void alikeFirstAndLast() {
        WavePairs x = new WavePairs();
        x.rule(0, 4000);
        Check.row(x, 0, 0, 0, 5);
        Check.row(x, 1, 0, 0, 5);
        Check.row(x, 1, 1, 0, 6, 1, 5);
        Check.row(x, 1, 2, 0, 5, 3999, 6);
        Check.row(x, 1, 3, 1, 5);
        Check.row(x, 1, 11, 0, 5, 2000, 5, 3999, 5);
        check.due("21 unlike at TICK 0 or at 3999", x.alike(0), 1 | 1 << 11);
        x.rule(0, 3999);
        check.due("21 without TICK 3999", x.alike(0), 1 | 1 << 2 | 1 << 11);
        x.rule(1, 1);
        check.due("21 NOT KNOWN at TICK 0", x.alike(0), 4095 & ~2);
        x.rule(0, 1);
        check.due("21 TICK 0 alone", x.alike(0), 4095 & ~2);
        check.due("21 none of RUN 0's other ones hinders", x.alike(11), 4095);
    }

    private static void holds() {
        WavePairs x = new WavePairs();
        x.rule(0, 100);
        Check.row(x, 1, 2, 10, 1, 15, 1, 20, 0, 30, 1, 31, 0, 90, 1);
        Check.row(x, 1, 4, 0, 0, 12, 7, 14, 0, 95, 7);
        check.due("22 b = a", x.holds(1, 2, 1, 2, 1, 1, -1, 0), 3);
        check.due("22 from", x.holds(1, 2, 1, 2, 1, 1, 0, 0), 10);
        check.due("22 up to, through a like change", x.holds(1, 2, 1, 2, 1, 1, 0, 1), 20);
        check.due("22 one TICK", x.holds(1, 2, 1, 2, 1, 1, 1, 1), 31);
        check.due("22 to END", x.holds(1, 2, 1, 2, 1, 1, 2, 1), 100);
        check.due("22 of 2 TICKS", x.holds(1, 2, 1, 2, 1, 2, 1, 0), 90);
        check.due("22 of 10 TICKS", x.holds(1, 2, 1, 2, 1, 10, -1, 1), 2);
        check.due("22 of 11 TICKS", x.holds(1, 2, 1, 2, 1, 11, -1, 0), 0);
        check.due("22 b has not w", x.holds(1, 2, 1, 4, 7, 1, -1, 0), 4);
        check.due("22 ahead of w", x.holds(1, 2, 1, 4, 7, 1, 0, 1), 12);
        check.due("22 behind w", x.holds(1, 2, 1, 4, 7, 1, 1, 0), 14);
        check.due("22 w till END", x.holds(1, 2, 1, 4, 7, 1, 3, 1), 95);
        check.due("22 NONE", x.holds(1, 2, 1, 4, 7, 1, 4, 1), WavePairs.NONE);
        check.due("22 NOT KNOWN", x.holds(1, 2, 256, 4, 7, 1, 0, 1), 10);
        check.due("22 not NOT KNOWN", x.holds(1, 4, 0, 2, 256, 1, 0, 0), 10);
        check.due("22 RUN 0", x.holds(0, 2, 256, 4, 7, 1, 0, 1), 100);
        x.call(2, 0, 5);
        x.call(4, 0, 6);
        x.mask(2, 0, 4000);
        x.shift(0, 3);
        x.rule(1, 1);
        check.due("22 names, shifts, masks, LOOSE count for nothing in b", x.holds(1, 2, 1, 4, 7, 1, 0, 1), 12);
        check.due("22 names, masks, LOOSE count for nothing", x.holds(1, 2, 1, 2, 1, 1, -1, 0), 3);
        x.rule(0, 4000);
        check.due("22 4000 TICKS", x.holds(0, 2, 256, 2, 0, 4000, 0, 1), 4000);
        x.rule(0, 10);
        check.due("22 END", x.holds(1, 2, 1, 2, 1, 1, -1, 0), 0);
    }

    /** "of n TICKS at least": a span of n - 1, of n, of n + 1. */
    private static void holdsAtLeast() {
        WavePairs x = new WavePairs();
        x.rule(0, 100);
        Check.row(x, 0, 5, 10, 1, 13, 0, 20, 1, 24, 0, 30, 1, 35, 0);
        check.due("22 n 3", x.holds(0, 5, 1, 5, 0, 3, -1, 0), 3);
        check.due("22 n 4", x.holds(0, 5, 1, 5, 0, 4, -1, 0), 2);
        check.due("22 n 4, the first of them", x.holds(0, 5, 1, 5, 0, 4, 0, 0), 20);
        check.due("22 n 4, the second", x.holds(0, 5, 1, 5, 0, 4, 1, 1), 35);
        check.due("22 n 4, no third", x.holds(0, 5, 1, 5, 0, 4, 2, 0), WavePairs.NONE);
        check.due("22 n 5", x.holds(0, 5, 1, 5, 0, 5, 0, 0), 30);
        check.due("22 n 6", x.holds(0, 5, 1, 5, 0, 6, -1, 0), 0);
        check.due("22 n 6, none", x.holds(0, 5, 1, 5, 0, 6, 0, 0), WavePairs.NONE);
        check.due("22 n beyond END", x.holds(0, 5, 1, 5, 0, 101, -1, 0), 0);
        check.due("22 n 4000", x.holds(0, 5, 1, 5, 0, 4000, -1, 0), 0);
        // b's w cuts spans in parts: the parts count, not what they were of.
        Check.row(x, 0, 6, 32, 7, 33, 8);
        check.due("22 parts of 2 TICKS", x.holds(0, 5, 1, 6, 7, 2, -1, 0), 4);
        check.due("22 parts of 3 TICKS", x.holds(0, 5, 1, 6, 7, 3, -1, 0), 2);
    }

    private static void holdsFirstAndLast() {
        WavePairs x = new WavePairs();
        x.rule(0, 4000);
        Check.row(x, 1, 11, 0, 1, 1, 0, 3999, 1);
        check.due("22 two", x.holds(1, 11, 1, 0, 0, 1, -1, 0), 2);
        check.due("22 from TICK 0", x.holds(1, 11, 1, 0, 0, 1, 0, 0), 0);
        check.due("22 up to 1", x.holds(1, 11, 1, 0, 0, 1, 0, 1), 1);
        check.due("22 from TICK 3999", x.holds(1, 11, 1, 0, 0, 1, 1, 0), 3999);
        check.due("22 up to END", x.holds(1, 11, 1, 0, 0, 1, 1, 1), 4000);
        check.due("22 b has w at all TICKS", x.holds(1, 11, 1, 0, 256, 1, -1, 0), 0);
        check.due("22 b = a: w is not asked", x.holds(1, 11, 1, 11, 1, 1, -1, 0), 2);
        check.due("22 b = a: nor another w", x.holds(1, 11, 1, 11, 256, 1, -1, 0), 2);
        check.due("22 never", x.holds(1, 11, 2, 0, 0, 1, -1, 0), 0);
    }

    /** A question leaves nothing behind for the next one: SHIFTS and LOOSE are no matter of holds and masks. */
    private static void askedByTurns() {
        WavePairs x = new WavePairs();
        x.rule(0, 100);
        x.rule(1, 1);
        x.shift(0, -50);
        Check.row(x, 0, 0, 10, 1, 20, 256);
        for (int s = 0; s < 12; s++) {
            Check.row(x, 1, s, 0, 2);
        }
        check.due("12 loose, by a SHIFT", x.differences(), 0);
        check.due("22 behind differences", x.holds(0, 0, 1, 0, 0, 1, 0, 0), 10);
        check.due("12 again", x.differences(), 0);
        check.due("22 b has w", x.holds(1, 3, 2, 4, 2, 1, -1, 0), 0);
        check.due("14 again", x.first(), WavePairs.NONE);
        check.due("22 NOT KNOWN is a VALUE as others", x.holds(0, 0, 256, 0, 0, 1, 0, 1), 10);
        x.rule(1, 0);
        check.due("22 behind a rule", x.holds(0, 0, 1, 1, 0, 1, 0, 1), 20);
        check.due("12 strict: SIGNAL 0 twice, the others once", x.differences(), 13);
        check.due("22 behind them", x.holds(0, 0, 1, 1, 0, 1, 0, 0), 10);
        check.due("14 by the SHIFT still", x.first(), 10);
    }

    private static void holdsRefuse() {
        WavePairs x = new WavePairs();
        int[][] bad = {{-1, 0, 0, 1, 0, 1, -1, 0}, {2, 0, 0, 1, 0, 1, -1, 0}, {0, -1, 0, 1, 0, 1, -1, 0},
            {0, 12, 0, 1, 0, 1, -1, 0}, {0, 0, -1, 1, 0, 1, -1, 0}, {0, 0, 257, 1, 0, 1, -1, 0},
            {0, 0, 0, -1, 0, 1, -1, 0}, {0, 0, 0, 12, 0, 1, -1, 0}, {0, 0, 0, 1, -1, 1, -1, 0},
            {0, 0, 0, 1, 257, 1, -1, 0}, {0, 0, 0, 1, 0, 0, -1, 0}, {0, 0, 0, 1, 0, 4001, -1, 0},
            {0, 0, 0, 1, 0, 1, -2, 0}, {0, 0, 0, 1, 0, 1, 0, -1}, {0, 0, 0, 1, 0, 1, 0, 2}};
        for (int[] c : bad) {
            check.due("22 BAD " + java.util.Arrays.toString(c),
                x.holds(c[0], c[1], c[2], c[3], c[4], c[5], c[6], c[7]), WavePairs.BAD);
        }
        check.due("22 NONE", x.holds(0, 0, 0, 1, 0, 1, Integer.MAX_VALUE, 0), WavePairs.NONE);
    }

    private static void window() {
        WavePairs x = new WavePairs();
        x.rule(0, 100);
        Check.row(x, 1, 9, 10, 256, 20, 0, 30, 0, 40, 255, 50, 256, 60, 3, 99, 4);
        check.due("23 to another value", x.window(1, 9, 0, 100, 0), 5);
        check.due("23 not known at first is no other", x.window(1, 9, 0, 20, 0), 0);
        check.due("23 from a on", x.window(1, 9, 20, 30, 0), 1);
        check.due("23 ahead of a", x.window(1, 9, 21, 40, 0), 0);
        check.due("23 a is held against what is ahead of it", x.window(1, 9, 30, 31, 0), 0);
        check.due("23 last TICK", x.window(1, 9, 99, 100, 0), 1);
        check.due("23 not known", x.window(1, 9, 0, 100, 1), 30);
        check.due("23 not known, part", x.window(1, 9, 5, 15, 1), 10);
        check.due("23 not known, none", x.window(1, 9, 20, 50, 1), 0);
        check.due("23 not known, one", x.window(1, 9, 59, 60, 1), 1);
        check.due("23 sum", x.window(1, 9, 0, 100, 2), 255 * 10 + 3 * 39 + 4);
        check.due("23 sum, part", x.window(1, 9, 49, 61, 2), 255 + 3);
        check.due("23 sum of none", x.window(1, 9, 0, 40, 2), 0);
        check.due("23 no changes", x.window(0, 9, 3, 7, 1), 4);
        x.call(9, 0, 1);
        check.due("23 names count for nothing", x.window(1, 9, 60, 61, 2), 3);
        check.due("23 BAD run", x.window(2, 9, 0, 1, 0), WavePairs.BAD);
        check.due("23 BAD run below", x.window(-1, 9, 0, 1, 0), WavePairs.BAD);
        check.due("23 BAD signal", x.window(1, 12, 0, 1, 0), WavePairs.BAD);
        check.due("23 BAD signal below", x.window(1, -1, 0, 1, 0), WavePairs.BAD);
        check.due("23 BAD a", x.window(1, 9, -1, 1, 0), WavePairs.BAD);
        check.due("23 BAD a at b", x.window(1, 9, 1, 1, 0), WavePairs.BAD);
        check.due("23 BAD b beyond END", x.window(1, 9, 1, 101, 0), WavePairs.BAD);
        check.due("23 BAD what", x.window(1, 9, 0, 1, 3), WavePairs.BAD);
        check.due("23 BAD what below", x.window(1, 9, 0, 1, -1), WavePairs.BAD);
        x.rule(0, 4000);
        x.cut(1, 9, 0);
        x.change(1, 9, 0, 255);
        check.due("23 the greatest sum", x.window(1, 9, 0, 4000, 2), 255 * 4000);
    }

    private static void windowFirstAndLast() {
        WavePairs x = new WavePairs();
        x.rule(0, 4000);
        Check.row(x, 0, 9, 0, 5, 3999, 256);
        check.due("23 CHANGE at TICK 0, from NOT KNOWN", x.window(0, 9, 0, 1, 0), 1);
        check.due("23 at TICK 3999", x.window(0, 9, 3999, 4000, 0), 1);
        check.due("23 between", x.window(0, 9, 1, 3999, 0), 0);
        check.due("23 both", x.window(0, 9, 0, 4000, 0), 2);
        check.due("23 NOT KNOWN at the last TICK", x.window(0, 9, 0, 4000, 1), 1);
        check.due("23 KNOWN till then", x.window(0, 9, 0, 3999, 1), 0);
        check.due("23 sum till then", x.window(0, 9, 0, 4000, 2), 5 * 3999);
        check.due("23 sum of the last TICK", x.window(0, 9, 3999, 4000, 2), 0);
        check.due("23 sum of TICK 0", x.window(0, 9, 0, 1, 2), 5);
        x.change(1, 9, 0, 256);
        check.due("23 NOT KNOWN at TICK 0 is no other VALUE", x.window(1, 9, 0, 4000, 0), 0);
        x.change(1, 9, 5, 0);
        x.change(1, 9, 6, 256);
        check.due("23 to 0, and back", x.window(1, 9, 0, 4000, 0), 2);
        check.due("23 0 is KNOWN", x.window(1, 9, 0, 4000, 1), 3999);
    }

    private static void count() {
        WavePairs x = new WavePairs();
        Check.row(x, 0, 0, 0, 1, 3999, 2);
        Check.row(x, 1, 11, 0, 1);
        check.due("24 changes of all", x.count(0), 3);
        x.mask(0, 0, 1);
        x.maskWhile(0, 1, 1);
        check.due("24 masks", x.count(1), 2);
        x.channel(0, 0, 0, 0, 0);
        x.channel(3, 0, 0, 0, 0);
        x.channel(3, 1, 0, 0, 0);
        check.due("24 channels", x.count(2), 2);
        x.gate(1, 1, 0, 0);
        x.gate(2, 6, 0, 1);
        x.gate(11, 2, 0, 1);
        check.due("24 gates", x.count(3), 3);
        x.gate(2, 0, 0, 1);
        check.due("24 gates less", x.count(3), 2);
        x.noMasks();
        check.due("24 no masks", x.count(1), 0);
        check.due("24 BAD", x.count(4), WavePairs.BAD);
        check.due("24 BAD below", x.count(-1), WavePairs.BAD);
    }

    private static void countMost() {
        WavePairs x = new WavePairs();
        for (int i = 0; i < 12; i++) {
            check.due("24 gates", x.count(3), i);
            x.gate(i, 1 + i % 6, (i + 1) % 12, (i + 2) % 12);
        }
        check.due("24 all are gates", x.count(3), 12);
        for (int i = 0; i < 4; i++) {
            check.due("24 channels", x.count(2), i);
            x.channel(i, i, i, i, i);
        }
        check.due("24 all are told", x.count(2), 4);
        for (int i = 0; i < 12; i++) {
            x.mask(i, 0, 4000);
        }
        check.due("24 ten masks", x.count(1), 10);
        for (int i = 0; i < 50; i++) {
            x.change(i % 2, i % 12, i, i);
            check.due("24 changes", x.count(0), i + 1);
        }
        x.cut(0, 0, 1);
        check.due("24 changes less those cut", x.count(0), 46);
    }
}
