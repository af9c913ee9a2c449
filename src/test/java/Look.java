import java.util.LinkedHashMap;
import java.util.Map;

/**
 * What an object answers to fewer than 400 calls that together show all that it holds.
 * It takes the object apart at last, so an object is looked at once.
 */
final class Look {
    private static final int[] TICKS = {0, 50, 199, 3999};

    private final Map<String, Integer> answers = new LinkedHashMap<>();
    private final WavePairs x;

    private Look(WavePairs x) {
        this.x = x;
    }

    static Map<String, Integer> at(WavePairs x) {
        Look look = new Look(x);
        look.counts();
        look.differences();
        look.channels();
        look.net();
        look.rows();
        look.takeApart();
        return look.answers;
    }

    private void note(String call, int answer) {
        if (answers.put(call, answer) != null) {
            throw new IllegalStateException(call + " is asked twice");
        }
    }

    private void counts() {
        for (int what = 0; what < 4; what++) {
            note("count(" + what + ")", x.count(what));
        }
    }

    private void differences() {
        note("differences()", x.differences());
        note("first()", x.first());
        for (int i = 0; i < 10; i++) {
            for (int what = 0; what < 3; what++) {
                note("difference(" + i + ", " + what + ")", x.difference(i, what));
            }
        }
    }

    private void channels() {
        for (int c = 0; c < 4; c++) {
            note("unlike(" + c + ")", x.unlike(c));
            for (int run = 0; run < 2; run++) {
                for (int i = -1; i < 2; i++) {
                    note("act(" + c + ", " + run + ", " + i + ", 0)", x.act(c, run, i, 0));
                }
                note("act(" + c + ", " + run + ", 0, 1)", x.act(c, run, 0, 1));
            }
        }
    }

    private void net() {
        for (int t = 0; t < 200; t += 15) {
            note("guilty(" + t + ")", x.guilty(t));
        }
        for (int group = 0; group < 4; group++) {
            note("fit(" + group + ")", x.fit(group));
        }
        for (int s = 0; s < 12; s++) {
            note("alike(" + s + ")", x.alike(s));
        }
    }

    private void rows() {
        for (int run = 0; run < 2; run++) {
            for (int s = 0; s < 12; s++) {
                String row = run + ", " + s + ", ";
                for (int t : TICKS) {
                    note("value(" + row + t + ")", x.value(run, s, t));
                }
                for (int what = 0; what < 3; what++) {
                    note("window(" + row + "0, 200, " + what + ")", x.window(run, s, 0, 200, what));
                }
                note("holds(" + row + "1..)", x.holds(run, s, 1, s, 0, 1, -1, 0));
            }
        }
    }

    private void takeApart() {
        note("noMasks()", x.noMasks());
        note("first() with no masks", x.first());
        note("differences() with no masks", x.differences());
        for (int group = 0; group < 4; group++) {
            note("shift(" + group + ", 0)", x.shift(group, 0));
        }
        // Ahead of the rows and names: each gate hides those of higher numbers from guilty until it is gone.
        for (int s = 0; s < 12; s++) {
            note("gate(" + s + ", 0, 0, 0)", x.gate(s, 0, 0, 0));
            note("guilty(101) without gates to " + s, x.guilty(101));
            note("guilty(145) without gates to " + s, x.guilty(145));
        }
        for (int s = 0; s < 12; s++) {
            note("call(" + s + ", 0, 0)", x.call(s, 0, 0));
            note("call(" + s + ", 1, 0)", x.call(s, 1, 0));
            note("cut(0, " + s + ", 0)", x.cut(0, s, 0));
            note("cut(1, " + s + ", 0)", x.cut(1, s, 0));
        }
        note("rule(0, 1)", x.rule(0, 1));
        note("rule(1, 0)", x.rule(1, 0));
    }
}
