/** Promises 6 to 8: rule, call, shift. */
public final class RulesTest {
    private static final Check check = new Check();

    public static void main(String[] args) {
        rule();
        call();
        shift();
        check.end();
    }

    private static void rule() {
        WavePairs x = new WavePairs();
        check.due("6 END", x.rule(0, 1), 1000);
        check.due("6 END most", x.rule(0, 4000), 1);
        check.due("6 END BAD 0", x.rule(0, 0), WavePairs.BAD);
        check.due("6 END BAD 4001", x.rule(0, 4001), WavePairs.BAD);
        check.due("6 END BAD below", x.rule(0, Integer.MIN_VALUE), WavePairs.BAD);
        check.due("6 END stayed", x.rule(0, 50), 4000);
        check.due("6 LOOSE", x.rule(1, 1), 0);
        check.due("6 LOOSE BAD 2", x.rule(1, 2), WavePairs.BAD);
        check.due("6 LOOSE BAD -1", x.rule(1, -1), WavePairs.BAD);
        check.due("6 LOOSE stayed", x.rule(1, 0), 1);
        check.due("6 LOOSE again", x.rule(1, 0), 0);
        check.due("6 BAD what", x.rule(2, 1), WavePairs.BAD);
        check.due("6 BAD what below", x.rule(-1, 1), WavePairs.BAD);
        check.due("6 END is what it was", x.rule(0, 9), 50);
        Check.row(x, 0, 0, 9, 1);
        check.due("6 TICKS at END are not looked at", x.differences(), 0);
        x.rule(0, 10);
        check.due("6 the last TICK is", x.differences(), 1);
        x.rule(1, 1);
        check.due("6 LOOSE agrees", x.differences(), 0);
    }

    private static void call() {
        WavePairs x = new WavePairs();
        check.due("7 name", x.call(11, 0, 0), 11);
        check.due("7 name again", x.call(11, 0, 11), 0);
        check.due("7 group", x.call(11, 1, 3), 0);
        check.due("7 group again", x.call(11, 1, 0), 3);
        check.due("7 BAD signal", x.call(12, 0, 0), WavePairs.BAD);
        check.due("7 BAD signal below", x.call(-1, 1, 0), WavePairs.BAD);
        check.due("7 BAD what", x.call(0, 2, 0), WavePairs.BAD);
        check.due("7 BAD what below", x.call(0, -1, 0), WavePairs.BAD);
        check.due("7 BAD name", x.call(0, 0, 12), WavePairs.BAD);
        check.due("7 BAD name below", x.call(0, 0, -1), WavePairs.BAD);
        check.due("7 BAD group", x.call(0, 1, 4), WavePairs.BAD);
        check.due("7 BAD group below", x.call(0, 1, -1), WavePairs.BAD);
        check.due("7 refusals leave the name", x.call(0, 0, 5), 0);
        check.due("7 refusals leave the group", x.call(0, 1, 1), 0);
        Check.row(x, 0, 0, 3, 7);
        Check.row(x, 0, 1, 3, 7);
        Check.row(x, 1, 5, 3, 7);
        check.due("7 by name", x.first(), 3);
        x.call(1, 0, 5);
        check.due("7 two may have one name", x.difference(0, 0), 5);
        check.due("7 only 5 differs then", x.differences(), 1);
    }

    private static void shift() {
        WavePairs x = new WavePairs();
        check.due("8 most", x.shift(3, 50), 0);
        check.due("8 least", x.shift(3, -50), 50);
        check.due("8 BAD", x.shift(3, 51), -1000);
        check.due("8 BAD below", x.shift(3, -51), -1000);
        check.due("8 BAD group", x.shift(4, 0), -1000);
        check.due("8 BAD group below", x.shift(-1, 0), -1000);
        check.due("8 stayed", x.shift(3, 0), -50);
        check.due("8 another group", x.shift(0, 1), 0);
    }
}
