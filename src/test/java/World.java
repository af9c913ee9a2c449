/** An object that has been told something of every kind, so that a change of anything shows. */
final class World {
    static final int END = 200;

    private World() {
    }

    /** Fewer than 100 calls: a Look fits in behind them. Signal 9 has no changes, channels 1, 2 are not told. */
    static void tell(WavePairs x) {
        x.rule(0, END);
        tellRows(x);
        x.call(5, 0, 6);
        x.call(4, 1, 2);
        x.call(10, 1, 3);
        x.shift(1, 50);
        x.shift(2, 1);
        x.shift(3, -7);
        x.mask(3, 35, 45);
        x.mask(11, 199, 200);
        x.maskWhile(8, 8, 1);
        x.maskWhile(7, 0, 0);
        x.channel(0, 0, 1, 2, 3);
        x.channel(3, 0, 1, 1, 4);
        x.gate(7, 6, 3, 0);
        x.gate(8, 2, 1, 2);
        x.gate(10, 1, 4, 0);
    }

    private static void tellRows(WavePairs x) {
        for (int run = 0; run < 2; run++) {
            Check.row(x, run, 0, 0, 0, 10, 1, 20, 0, 30, 1, 40, 0, 50, 1, 60, 0, 70, 1);
            Check.row(x, run, 1, 5, 1, 65, 0);
            Check.row(x, run, 2, 15, 1);
            Check.row(x, run, 6, 0, 3, 120, 256, 130, 3);
        }
        Check.row(x, 0, 3, 9, 50, 29, 60, 49, 70);
        Check.row(x, 1, 3, 9, 50, 29, 61, 49, 70);
        Check.row(x, 0, 4, 100, 1, 103, 2);
        Check.row(x, 1, 4, 102, 1, 105, 2);
        Check.row(x, 0, 5, 0, 3, 120, 4);
        Check.row(x, 0, 7, 50, 1);
        Check.row(x, 1, 7, 50, 2);
        Check.row(x, 0, 8, 80, 1, 90, 256, 95, 2);
        Check.row(x, 0, 10, 140, 5);
        Check.row(x, 1, 10, 150, 5);
        Check.row(x, 1, 11, 198, 1);
    }
}
