/** Promises 15 to 17: channel, act, unlike. */
public final class ChannelsTest {
    private static final Check check = new Check();

    public static void main(String[] args) {
        channel();
        acts();
        edgesOfClocks();
        firstTicks();
        atTheTickAhead();
        dataNotKnown();
        toldAnew();
        names();
        unlike();
        check.end();
    }

    private static void channel() {
        WavePairs x = new WavePairs();
        check.due("15 BAD channel", x.channel(4, 0, 1, 2, 3), WavePairs.BAD);
        check.due("15 BAD channel below", x.channel(-1, 0, 1, 2, 3), WavePairs.BAD);
        for (int bad = -1; bad <= 12; bad += 13) {
            check.due("15 BAD clock", x.channel(0, bad, 1, 2, 3), WavePairs.BAD);
            check.due("15 BAD valid", x.channel(0, 0, bad, 2, 3), WavePairs.BAD);
            check.due("15 BAD ready", x.channel(0, 0, 1, bad, 3), WavePairs.BAD);
            check.due("15 BAD data", x.channel(0, 0, 1, 2, bad), WavePairs.BAD);
        }
        check.due("15 BAD tells nothing", x.count(2), 0);
        check.due("16 NO", x.act(0, 0, -1, 0), WavePairs.NO);
        check.due("17 NO", x.unlike(0), WavePairs.NO);
        check.due("15 told", x.channel(3, 11, 11, 0, 0), 0);
        check.due("15 told again", x.channel(3, 0, 1, 2, 3), 0);
        check.due("15 counts once", x.count(2), 1);
        check.due("16 another is not told", x.act(2, 0, -1, 0), WavePairs.NO);
        check.due("16 told, none yet", x.act(3, 0, -1, 0), 0);
        check.due("16 NONE", x.act(3, 0, 0, 0), WavePairs.NONE);
        check.due("17 NONE", x.unlike(3), WavePairs.NONE);
    }

    /** Edges at 10, 20, 30, 40 with valid from 9 to 29 and ready from 15 on. */
    private static WavePairs told() {
        WavePairs x = new WavePairs();
        x.rule(0, 100);
        for (int run = 0; run < 2; run++) {
            Check.row(x, run, 0, 0, 0, 10, 1, 15, 0, 20, 1, 25, 0, 30, 1, 35, 0, 40, 1);
            Check.row(x, run, 1, 9, 1, 39, 0);
            Check.row(x, run, 2, 15, 1);
            Check.row(x, run, 3, 19, 50, 20, 60, 29, 70, 30, 80);
        }
        x.channel(0, 0, 1, 2, 3);
        return x;
    }

    private static void acts() {
        WavePairs x = told();
        check.due("16 how many", x.act(0, 0, -1, 0), 2);
        check.due("16 how many, what 1", x.act(0, 0, -1, 1), 2);
        check.due("16 tick", x.act(0, 0, 0, 0), 20);
        check.due("16 value at the TICK ahead", x.act(0, 0, 0, 1), 50);
        check.due("16 tick", x.act(0, 0, 1, 0), 30);
        check.due("16 value", x.act(0, 0, 1, 1), 70);
        check.due("16 NONE", x.act(0, 0, 2, 0), WavePairs.NONE);
        check.due("16 BAD i", x.act(0, 0, -2, 0), WavePairs.BAD);
        check.due("16 BAD run", x.act(0, 2, 0, 0), WavePairs.BAD);
        check.due("16 BAD run below", x.act(0, -1, 0, 0), WavePairs.BAD);
        check.due("16 BAD channel", x.act(4, 0, 0, 0), WavePairs.BAD);
        check.due("16 BAD channel below", x.act(-1, 0, 0, 0), WavePairs.BAD);
        check.due("16 BAD what", x.act(0, 0, 0, 2), WavePairs.BAD);
        check.due("16 BAD what below", x.act(0, 0, 0, -1), WavePairs.BAD);
        check.due("16 BAD ahead of NO", x.act(1, 0, -2, 0), WavePairs.BAD);
        check.due("16 BAD ahead of NO", x.act(1, 0, 0, 2), WavePairs.BAD);
        x.cut(0, 1, 39);
        check.due("16 valid till the end", x.act(0, 0, 2, 0), 40);
        x.rule(0, 40);
        check.due("16 END", x.act(0, 0, -1, 0), 2);
        x.rule(0, 41);
        check.due("16 END behind it", x.act(0, 0, -1, 0), 3);
        x.shift(0, 4);
        x.mask(0, 0, 4000);
        x.mask(3, 0, 4000);
        check.due("16 shifts, masks count for nothing", x.act(0, 1, -1, 0), 2);
        check.due("17 shifts, masks count for nothing", x.unlike(0), 2);
    }

    private static void edgesOfClocks() {
        WavePairs x = new WavePairs();
        x.rule(0, 100);
        Check.row(x, 0, 1, 0, 1);
        Check.row(x, 0, 0, 0, 1, 10, 1, 20, 256, 21, 1, 30, 7, 31, 1, 40, 0, 50, 2);
        x.channel(0, 0, 1, 1, 1);
        check.due("16 from NOT KNOWN and from 7", x.act(0, 0, -1, 0), 2);
        check.due("16 at TICK 0 none, to the like value none", x.act(0, 0, 0, 0), 21);
        check.due("16 from 7", x.act(0, 0, 1, 0), 31);
        Check.row(x, 1, 0, 5, 1);
        Check.row(x, 1, 1, 4, 1);
        check.due("16 the first change, ahead NOT KNOWN", x.act(0, 1, 0, 0), 5);
        x.cut(1, 1, 0);
        x.change(1, 1, 5, 1);
        check.due("16 valid at the edge is too late", x.act(0, 1, -1, 0), 0);
        x.cut(1, 1, 0);
        x.change(1, 1, 4, 1);
        x.change(1, 1, 5, 0);
        check.due("16 valid at the TICK ahead is enough", x.act(0, 1, -1, 0), 1);
        x.rule(1, 1);
        x.cut(1, 1, 0);
        check.due("16 a valid that is NOT KNOWN is not 1, loose or not", x.act(0, 1, -1, 0), 0);
    }

    /** "(at TICK 0: none)": the first edge that there can be is at TICK 1, by what was at TICK 0. */
    private static void firstTicks() {
        for (int run = 0; run < 2; run++) {
            WavePairs x = new WavePairs();
            Check.row(x, run, 0, 0, 1);
            Check.row(x, run, 1, 0, 1);
            Check.row(x, run, 3, 0, 9, 1, 8);
            x.channel(0, 0, 1, 1, 3);
            check.due("16 none at TICK 0", x.act(0, run, -1, 0), 0);
            check.due("17 none at TICK 0", x.unlike(0), WavePairs.NONE);
            x.cut(run, 0, 0);
            x.change(run, 0, 1, 1);
            check.due("16 one at TICK 1", x.act(0, run, -1, 0), 1);
            check.due("16 at TICK 1", x.act(0, run, 0, 0), 1);
            check.due("16 the VALUE at TICK 0", x.act(0, run, 0, 1), 9);
            check.due("17 the other RUN has none", x.unlike(0), 0);
            x.rule(0, 1);
            check.due("16 END 1: none", x.act(0, run, -1, 0), 0);
        }
    }

    /** "valid and ready had 1 at the TICK ahead": each of them, at that TICK and at no other. */
    private static void atTheTickAhead() {
        for (int late = 1; late <= 2; late++) {
            WavePairs x = new WavePairs();
            Check.row(x, 0, 0, 10, 1);
            Check.row(x, 0, 3 - late, 0, 1);
            x.channel(2, 0, 1, 2, 3);
            int[][] fromUpToActs = {{9, 10, 1}, {10, 11, 0}, {8, 9, 0}, {9, 4000, 1}, {0, 9, 0}, {0, 10, 1}};
            for (int[] f : fromUpToActs) {
                x.change(0, late, f[0], 1);
                if (f[1] < 4000) {
                    x.change(0, late, f[1], 0);
                }
                check.due("16 of " + late + " 1 from " + f[0] + " to " + f[1], x.act(2, 0, -1, 0), f[2]);
                x.cut(0, late, 0);
            }
            x.change(0, late, 9, 2);
            check.due("16 of " + late + " another VALUE than 1", x.act(2, 0, -1, 0), 0);
            x.cut(0, late, 0);
            x.change(0, late, 0, 255);
            check.due("16 of " + late + " another VALUE than 1", x.act(2, 0, -1, 0), 0);
        }
    }

    private static void dataNotKnown() {
        WavePairs x = told();
        x.cut(0, 3, 0);
        check.due("16 data NOT KNOWN", x.act(0, 0, 0, 1), 256);
        check.due("16 it is an ACT still", x.act(0, 0, -1, 1), 2);
        check.due("17 against a KNOWN one", x.unlike(0), 0);
        x.cut(1, 3, 0);
        check.due("17 both NOT KNOWN", x.unlike(0), WavePairs.NONE);
    }

    private static void toldAnew() {
        WavePairs x = told();
        check.due("15 each CHANNEL for itself", x.channel(3, 0, 1, 1, 3), 0);
        check.due("16 without ready there are three", x.act(3, 0, -1, 0), 3);
        check.due("16 the other stays", x.act(0, 0, -1, 0), 2);
        check.due("15 told anew", x.channel(0, 0, 2, 2, 1), 0);
        check.due("16 by its new SIGNALS", x.act(0, 0, -1, 0), 3);
        check.due("16 their data", x.act(0, 0, 0, 1), 1);
        check.due("15 one SIGNAL for all", x.channel(0, 0, 0, 0, 0), 0);
        check.due("16 a clock that had 1 has no edge", x.act(0, 0, -1, 0), 0);
    }

    private static void names() {
        WavePairs x = told();
        x.call(3, 0, 5);
        Check.row(x, 1, 5, 0, 50, 25, 70);
        check.due("16 data by name", x.act(0, 1, 1, 1), 70);
        check.due("16 RUN 0 by number", x.act(0, 0, 1, 1), 70);
        check.due("17 alike by name", x.unlike(0), WavePairs.NONE);
        x.call(0, 0, 6);
        check.due("16 clock by name", x.act(0, 1, -1, 0), 0);
        check.due("17 one has no more", x.unlike(0), 0);
        Check.row(x, 1, 6, 24, 0, 25, 1, 27, 0, 38, 1);
        check.due("16 another clock", x.act(0, 1, -1, 0), 2);
        check.due("17 whatever the TICKS", x.unlike(0), WavePairs.NONE);
        x.call(1, 0, 7);
        check.due("16 valid by name", x.act(0, 1, -1, 0), 0);
        x.call(1, 0, 1);
        x.call(2, 0, 7);
        check.due("16 ready by name", x.act(0, 1, -1, 0), 0);
    }

    private static void unlike() {
        WavePairs x = told();
        check.due("17 BAD", x.unlike(4), WavePairs.BAD);
        check.due("17 BAD below", x.unlike(-1), WavePairs.BAD);
        check.due("17 NO", x.unlike(1), WavePairs.NO);
        check.due("17 NONE", x.unlike(0), WavePairs.NONE);
        x.cut(1, 3, 29);
        check.due("17 another value", x.unlike(0), 1);
        x.change(1, 3, 29, 256);
        check.due("17 NOT KNOWN", x.unlike(0), 1);
        x.rule(1, 1);
        check.due("17 NOT KNOWN, loose", x.unlike(0), WavePairs.NONE);
        x.cut(1, 0, 30);
        check.due("17 RUN 1 has no more", x.unlike(0), 1);
        x.cut(0, 0, 20);
        check.due("17 RUN 0 has none", x.unlike(0), 0);
        x.cut(1, 0, 20);
        check.due("17 both have none", x.unlike(0), WavePairs.NONE);
        WavePairs y = told();
        y.cut(0, 0, 30);
        check.due("17 RUN 0 has no more", y.unlike(0), 1);
        y.cut(0, 3, 0);
        check.due("17 the first of two", y.unlike(0), 0);
    }
}
