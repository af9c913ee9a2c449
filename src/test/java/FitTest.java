/** Promise 18: fit. */
public final class FitTest {
    private static final Check check = new Check();

    public static void main(String[] args) {
        refusals();
        leastSize();
        ends();
        oneTickAtLeast();
        ofAllSignals();
        masks();
        check.end();
    }

    private static void refusals() {
        WavePairs x = new WavePairs();
        check.due("18 BAD", x.fit(4), -1001);
        check.due("18 BAD below", x.fit(-1), -1001);
        check.due("18 NO", x.fit(3), -1002);
        check.due("18 all alike", x.fit(0), 0);
        x.shift(0, 9);
        check.due("18 the group's own shift is not looked at", x.fit(0), 0);
        check.due("18 nor changed", x.shift(0, 0), 9);
    }

    private static WavePairs apart(int by, int end) {
        WavePairs x = new WavePairs();
        x.rule(0, end);
        x.call(4, 1, 2);
        Check.row(x, 0, 4, 100, 1, 103, 2);
        Check.row(x, 1, 4, 100 + by, 1, 103 + by, 2);
        return x;
    }

    private static void leastSize() {
        for (int by = -50; by <= 50; by++) {
            check.due("18 apart by " + by, apart(by, 400).fit(2), by);
        }
        check.due("18 beyond", apart(51, 400).fit(2), -1004);
        check.due("18 beyond below", apart(-51, 400).fit(2), -1004);
        check.due("18 of two the one below 0", turnedAbout().fit(2), -3);
        WavePairs x = turnedAbout();
        x.cut(1, 4, 30);
        check.due("18 steady from 30 on in RUN 1", x.fit(2), -15);
        WavePairs y = turnedAbout();
        y.cut(0, 4, 30);
        check.due("18 steady from 30 on in RUN 0", y.fit(2), 15);
    }

    /** Values that turn every 3 ticks, in RUN 1 the other way about: odd times 3 fits. */
    private static WavePairs turnedAbout() {
        WavePairs x = new WavePairs();
        x.rule(0, 40);
        x.call(4, 1, 2);
        for (int t = 0; t < 40; t++) {
            x.change(0, 4, t, t / 3 % 2);
            x.change(1, 4, t, 1 - t / 3 % 2);
        }
        return x;
    }

    private static void ends() {
        WavePairs x = new WavePairs();
        x.rule(0, 10);
        x.call(0, 1, 1);
        Check.row(x, 0, 0, 0, 1, 1, 2);
        Check.row(x, 1, 0, 0, 3, 9, 1, 10, 2);
        check.due("18 only TICKS at which both are 0 to END - 1", x.fit(1), 9);
        x.rule(0, 9);
        check.due("18 at least one such TICK", x.fit(1), -1004);
        x.rule(0, 11);
        check.due("18 two such TICKS", x.fit(1), 9);
        WavePairs y = new WavePairs();
        y.rule(0, 1);
        Check.row(y, 0, 0, 0, 1);
        check.due("18 END 1", y.fit(0), -1004);
        y.rule(1, 1);
        check.due("18 loose", y.fit(0), 0);
        WavePairs z = new WavePairs();
        z.rule(0, 10);
        z.call(0, 1, 1);
        Check.row(z, 0, 0, 0, 1, 9, 3);
        Check.row(z, 1, 0, 0, 3, 1, 4);
        check.due("18 the other end", z.fit(1), -9);
    }

    /** "(at least one such TICK)": by 50 there is one if END is 51, and none if END is 50. */
    private static void oneTickAtLeast() {
        WavePairs x = new WavePairs();
        Check.row(x, 0, 0, 0, 1, 1, 2);
        Check.row(x, 1, 0, 0, 3, 50, 1);
        x.rule(0, 51);
        check.due("18 50, one TICK", x.fit(0), 50);
        x.rule(0, 50);
        check.due("18 50, no TICK", x.fit(0), -1004);
        WavePairs y = new WavePairs();
        Check.row(y, 0, 0, 0, 3, 50, 1);
        Check.row(y, 1, 0, 0, 1, 1, 2);
        y.rule(0, 51);
        check.due("18 -50, one TICK", y.fit(0), -50);
        y.rule(0, 50);
        check.due("18 -50, no TICK", y.fit(0), -1004);
        WavePairs z = new WavePairs();
        z.rule(0, 1);
        check.due("18 END 1, alike", z.fit(0), 0);
        z.change(1, 11, 0, 1);
        check.due("18 END 1, unlike", z.fit(0), -1004);
        z.rule(0, 2);
        check.due("18 END 2: by -1 TICK 1 against 0, by 1 TICK 0 against 1", z.fit(0), -1004);
        z.change(0, 11, 1, 1);
        check.due("18 END 2: by -1", z.fit(0), -1);
    }

    private static void ofAllSignals() {
        WavePairs x = apart(3, 400);
        x.call(5, 1, 2);
        check.due("18 a steady one does not hinder", x.fit(2), 3);
        Check.row(x, 0, 5, 50, 1);
        Check.row(x, 1, 5, 54, 1);
        check.due("18 two that do not fit together", x.fit(2), -1004);
        x.call(5, 1, 1);
        check.due("18 each for itself", x.fit(1), 4);
        check.due("18 each for itself", x.fit(2), 3);
        x.call(5, 1, 2);
        x.call(5, 0, 6);
        Check.row(x, 1, 6, 53, 1);
        check.due("18 by names", x.fit(2), 3);
        check.due("18 another group", x.fit(0), -1004);
    }

    private static void masks() {
        WavePairs x = apart(3, 400);
        x.change(0, 4, 200, 9);
        x.change(0, 4, 210, 2);
        check.due("18 hindered", x.fit(2), -1004);
        x.mask(4, 200, 210);
        check.due("18 masked TICKS are put aside", x.fit(2), 3);
        x.noMasks();
        x.maskWhile(4, 4, 9);
        check.due("18 masked while", x.fit(2), 3);
        x.noMasks();
        x.mask(3, 200, 210);
        check.due("18 another signal's mask", x.fit(2), -1004);
        x.mask(4, 0, 4000);
        check.due("18 all masked", x.fit(2), 0);
    }
}
