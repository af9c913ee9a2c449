/** Promises 1 to 5: a new object, change, changes, cut, value. */
public final class ChangesTest {
    private static final Check check = new Check();

    public static void main(String[] args) {
        newObject();
        change();
        changeRefuses();
        changes();
        changesRefuse();
        changesToTheLastTick();
        changesBehindACut();
        cut();
        cutAtTicks();
        value();
        check.end();
    }

    private static void newObject() {
        WavePairs x = new WavePairs();
        for (int run = 0; run < 2; run++) {
            for (int signal = 0; signal < 12; signal++) {
                check.due("1 value at 0", x.value(run, signal, 0), 256);
                check.due("1 value at 3999", x.value(run, signal, 3999), 256);
            }
        }
        for (int what = 0; what < 4; what++) {
            check.due("1 count " + what, x.count(what), 0);
        }
        for (int signal = 0; signal < 12; signal++) {
            check.due("1 name", x.call(signal, 0, 0), signal);
            check.due("1 group", x.call(signal, 1, 0), 0);
            check.due("1 gate", x.gate(signal, 0, signal, signal), 0);
        }
        for (int group = 0; group < 4; group++) {
            check.due("1 shift", x.shift(group, 0), 0);
            check.due("1 channel", x.unlike(group), WavePairs.NO);
        }
        check.due("1 END", x.rule(0, 5), 1000);
        check.due("1 LOOSE", x.rule(1, 0), 0);
        check.due("1 masks", x.noMasks(), 0);
        check.due("1 differences", x.differences(), 0);
        Check.row(x, 0, 0, 0, 1);
        check.due("1 objects share nothing", new WavePairs().count(0), 0);
    }

    private static void change() {
        WavePairs x = new WavePairs();
        check.due("2 first", x.change(0, 0, 0, 0), 1);
        check.due("2 like value side by side", x.change(0, 0, 1, 0), 2);
        check.due("2 not known", x.change(0, 0, 2, 256), 3);
        check.due("2 last tick", x.change(0, 0, 3999, 255), 4);
        check.due("2 another run", x.change(1, 0, 0, 9), 1);
        check.due("2 last signal", x.change(1, 11, 7, 9), 1);
        check.due("2 value 0", x.value(0, 0, 0), 0);
        check.due("2 value 1", x.value(0, 0, 1), 0);
        check.due("2 value 2", x.value(0, 0, 3998), 256);
        check.due("2 value 3", x.value(0, 0, 3999), 255);
        check.due("2 beyond END is told too", x.value(1, 11, 3999), 9);
    }

    private static void changeRefuses() {
        WavePairs x = new WavePairs();
        int[][] bad = {{-1, 0, 0, 0}, {2, 0, 0, 0}, {0, -1, 0, 0}, {0, 12, 0, 0}, {0, 0, -1, 0}, {0, 0, 4000, 0},
            {0, 0, 0, -1}, {0, 0, 0, 257}, {Integer.MIN_VALUE, 0, 0, 0}, {0, Integer.MAX_VALUE, 0, 0}};
        for (int[] c : bad) {
            check.due("2 BAD", x.change(c[0], c[1], c[2], c[3]), WavePairs.BAD);
        }
        x.change(0, 0, 10, 1);
        check.due("2 NO at", x.change(0, 0, 10, 2), WavePairs.NO);
        check.due("2 NO behind", x.change(0, 0, 9, 2), WavePairs.NO);
        check.due("2 BAD ahead of NO", x.change(0, 0, 9, 257), WavePairs.BAD);
        for (int i = 1; i < 50; i++) {
            check.due("2 fills", x.change(0, 0, 10 + i, i), i + 1);
        }
        check.due("2 FULL", x.change(0, 0, 60, 1), WavePairs.FULL);
        check.due("2 NO ahead of FULL", x.change(0, 0, 59, 1), WavePairs.NO);
        check.due("2 BAD ahead of FULL", x.change(0, 0, 4000, 1), WavePairs.BAD);
        check.due("2 refusals change nothing", x.count(0), 50);
        check.due("2 refusals leave values", x.value(0, 0, 3999), 49);
        check.due("2 another signal has room", x.change(0, 1, 60, 1), 1);
    }

    private static void changes() {
        WavePairs x = new WavePairs();
        check.due("3 one at TICK 0", x.changes(0, 3, 1, Check.packed(1, 5)), 1);
        check.due("3 its value", x.value(0, 3, 0), 5);
        check.due("3 four", x.changes(0, 3, 4, Check.packed(1, 0, 127, 256, 2, 255, 3, 7)), 5);
        check.due("3 a", x.value(0, 3, 1), 0);
        check.due("3 b ahead", x.value(0, 3, 127), 0);
        check.due("3 b", x.value(0, 3, 128), 256);
        check.due("3 c", x.value(0, 3, 130), 255);
        check.due("3 d ahead", x.value(0, 3, 132), 255);
        check.due("3 d", x.value(0, 3, 133), 7);
        // The first of four lies in the sign bit when it is far off.
        check.due("3 far first", x.changes(1, 3, 4, Check.packed(127, 1, 1, 2, 1, 3, 1, 4)), 4);
        check.due("3 far ahead", x.value(1, 3, 125), 256);
        check.due("3 far", x.value(1, 3, 126), 1);
        check.due("3 bits above the n told are not looked at",
            x.changes(1, 4, 1, 0x7777777777770000L | Check.packed(2, 9)), 1);
        check.due("3 low bits are", x.value(1, 4, 1), 9);
    }

    private static void changesRefuse() {
        WavePairs x = new WavePairs();
        long fine = Check.packed(1, 1);
        check.due("3 BAD run", x.changes(2, 0, 1, fine), WavePairs.BAD);
        check.due("3 BAD run below", x.changes(-1, 0, 1, fine), WavePairs.BAD);
        check.due("3 BAD signal", x.changes(0, 12, 1, fine), WavePairs.BAD);
        check.due("3 BAD signal below", x.changes(0, -1, 1, fine), WavePairs.BAD);
        check.due("3 BAD n 0", x.changes(0, 0, 0, fine), WavePairs.BAD);
        check.due("3 BAD n 5", x.changes(0, 0, 5, fine), WavePairs.BAD);
        check.due("3 BAD 0 ticks", x.changes(0, 0, 2, Check.packed(1, 1, 0, 1)), WavePairs.BAD);
        check.due("3 BAD value", x.changes(0, 0, 2, Check.packed(1, 1, 1, 257)), WavePairs.BAD);
        check.due("3 nothing is put", x.count(0), 0);
        x.change(0, 0, 3998, 1);
        check.due("3 BAD tick", x.changes(0, 0, 2, Check.packed(1, 1, 1, 1)), WavePairs.BAD);
        check.due("3 the first is not put", x.count(0), 1);
        check.due("3 last tick", x.changes(0, 0, 1, fine), 2);
        for (int i = 0; i < 48; i++) {
            x.change(1, 0, i, i);
        }
        check.due("3 FULL by one", x.changes(1, 0, 3, Check.packed(1, 1, 1, 1, 1, 1)), WavePairs.FULL);
        check.due("3 none is put", x.count(0), 50);
        check.due("3 BAD ahead of FULL", x.changes(1, 0, 3, Check.packed(1, 1, 1, 1, 0, 1)), WavePairs.BAD);
        check.due("3 just fits", x.changes(1, 0, 2, Check.packed(1, 1, 1, 1)), 50);
        check.due("3 FULL", x.changes(1, 0, 1, fine), WavePairs.FULL);
    }

    private static void changesToTheLastTick() {
        for (int n = 1; n <= 4; n++) {
            long v = Check.packed(java.util.Arrays.copyOf(new int[] {1, 1, 1, 2, 1, 3, 1, 4}, 2 * n));
            WavePairs x = new WavePairs();
            x.change(0, 0, 3999 - n, 9);
            check.due("3 the last of " + n + " at TICK 3999", x.changes(0, 0, n, v), n + 1);
            check.due("3 its value", x.value(0, 0, 3999), n);
            check.due("3 the one ahead of it", x.value(0, 0, 3998), n == 1 ? 9 : n - 1);
            x.change(1, 0, 4000 - n, 9);
            check.due("3 the last of " + n + " at TICK 4000", x.changes(1, 0, n, v), WavePairs.BAD);
            check.due("3 none is put", x.value(1, 0, 3999), 9);
            x.cut(1, 0, 0);
            x.change(1, 0, 3999, 9);
            check.due("3 the first of " + n + " at TICK 4000", x.changes(1, 0, n, v), WavePairs.BAD);
            check.due("3 nothing changes", x.count(0), n + 2);
        }
        WavePairs y = new WavePairs();
        y.change(0, 0, 3872, 9);
        check.due("3 127 TICKS more to 3999", y.changes(0, 0, 1, Check.packed(127, 8)), 2);
        y.change(1, 0, 3873, 9);
        check.due("3 127 TICKS more to 4000", y.changes(1, 0, 1, Check.packed(127, 8)), WavePairs.BAD);
        check.due("3 126 TICKS more to 3999", y.changes(1, 0, 1, Check.packed(126, 8)), 2);
    }

    /** "TICKS more than the latest CHANGE; at first more than -1": cut makes an earlier one the latest. */
    private static void changesBehindACut() {
        WavePairs x = new WavePairs();
        Check.row(x, 1, 4, 10, 1, 20, 2);
        x.cut(1, 4, 20);
        check.due("3 more than the one left", x.changes(1, 4, 1, Check.packed(3, 5)), 2);
        check.due("3 ahead of it", x.value(1, 4, 12), 1);
        check.due("3 at it", x.value(1, 4, 13), 5);
        x.cut(1, 4, 0);
        check.due("3 more than -1 again", x.changes(1, 4, 2, Check.packed(1, 6, 1, 7)), 2);
        check.due("3 TICK 0", x.value(1, 4, 0), 6);
        check.due("3 TICK 1", x.value(1, 4, 1), 7);
        check.due("3 each RUN for itself", x.changes(0, 4, 1, Check.packed(1, 8)), 1);
        check.due("3 TICK 0 there", x.value(0, 4, 0), 8);
    }

    /** "from a TICK on": a CHANGE at that TICK goes, one at the TICK ahead stays. */
    private static void cutAtTicks() {
        int[][] tickAndGone = {{0, 5}, {1, 4}, {2, 3}, {9, 3}, {10, 3}, {11, 2}, {3998, 2}, {3999, 1}};
        for (int[] c : tickAndGone) {
            WavePairs x = new WavePairs();
            Check.row(x, 0, 11, 0, 1, 1, 2, 10, 3, 3998, 4, 3999, 5);
            Check.row(x, 0, 10, 3999, 6);
            check.due("4 from " + c[0], x.cut(0, 11, c[0]), c[1]);
            check.due("4 what is left", x.count(0), 6 - c[1]);
            check.due("4 none from there on any more", x.cut(0, 11, c[0]), 0);
            check.due("4 value then", x.value(0, 11, 3999), c[1] == 5 ? 256 : 5 - c[1]);
            check.due("4 another signal stays", x.value(0, 10, 3999), 6);
            check.due("4 that TICK is free", x.change(0, 11, c[0], 7), 6 - c[1]);
        }
    }

    private static void cut() {
        WavePairs x = new WavePairs();
        Check.row(x, 0, 2, 0, 1, 5, 2, 9, 3, 3999, 4);
        Check.row(x, 1, 2, 6, 1);
        check.due("4 last", x.cut(0, 2, 3999), 1);
        check.due("4 none", x.cut(0, 2, 10), 0);
        check.due("4 at a change", x.cut(0, 2, 9), 1);
        check.due("4 between", x.cut(0, 2, 4), 1);
        check.due("4 value then", x.value(0, 2, 3999), 1);
        check.due("4 the other run stays", x.count(0), 2);
        check.due("4 a change can come again", x.change(0, 2, 4, 8), 2);
        check.due("4 all", x.cut(0, 2, 0), 2);
        check.due("4 empty", x.cut(0, 2, 0), 0);
        check.due("4 value of none", x.value(0, 2, 3999), 256);
        check.due("4 BAD run", x.cut(2, 2, 0), WavePairs.BAD);
        check.due("4 BAD run below", x.cut(-1, 2, 0), WavePairs.BAD);
        check.due("4 BAD signal", x.cut(1, 12, 0), WavePairs.BAD);
        check.due("4 BAD signal below", x.cut(1, -1, 0), WavePairs.BAD);
        check.due("4 BAD tick", x.cut(1, 2, 4000), WavePairs.BAD);
        check.due("4 BAD tick below", x.cut(1, 2, -1), WavePairs.BAD);
        check.due("4 refusals change nothing", x.count(0), 1);
    }

    private static void value() {
        WavePairs x = new WavePairs();
        Check.row(x, 1, 7, 5, 0, 6, 255, 2000, 256, 2001, 3);
        check.due("5 ahead of the first", x.value(1, 7, 4), 256);
        check.due("5 at the first", x.value(1, 7, 5), 0);
        check.due("5 at the next", x.value(1, 7, 6), 255);
        check.due("5 long since", x.value(1, 7, 1999), 255);
        check.due("5 not known", x.value(1, 7, 2000), 256);
        check.due("5 behind the last, and END", x.value(1, 7, 3999), 3);
        check.due("5 another run", x.value(0, 7, 3999), 256);
        x.call(7, 0, 3);
        check.due("5 names count for nothing", x.value(1, 7, 3999), 3);
        check.due("5 BAD run", x.value(-1, 7, 0), WavePairs.BAD);
        check.due("5 BAD run", x.value(2, 7, 0), WavePairs.BAD);
        check.due("5 BAD signal", x.value(0, -1, 0), WavePairs.BAD);
        check.due("5 BAD signal", x.value(0, 12, 0), WavePairs.BAD);
        check.due("5 BAD tick", x.value(0, 7, -1), WavePairs.BAD);
        check.due("5 BAD tick", x.value(0, 7, 4000), WavePairs.BAD);
    }
}
