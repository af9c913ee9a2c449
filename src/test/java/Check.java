/** Counts the answers of one test that are not the ones due. */
final class Check {
    private int wrong = 0;
    private int asked = 0;

    void due(String what, long got, long want) {
        asked++;
        if (got != want) {
            wrong++;
            System.out.println(what + " answered " + got + ", due is " + want);
        }
    }

    void yes(String what, boolean holds) {
        due(what, holds ? 1 : 0, 1);
    }

    /** Ends the program with 1 if an answer was wrong. */
    void end() {
        System.out.println(asked + " answers looked at, " + wrong + " not as due");
        if (wrong != 0 || asked == 0) {
            System.exit(1);
        }
    }

    /** A row by ticks and values in turn. */
    static void row(WavePairs x, int run, int signal, int... ticksAndValues) {
        for (int i = 0; i + 1 < ticksAndValues.length; i += 2) {
            if (x.change(run, signal, ticksAndValues[i], ticksAndValues[i + 1]) != i / 2 + 1) {
                throw new IllegalStateException("a test's row could not be told");
            }
        }
    }

    /** CHANGES packed as changes takes them, by ticks more and values in turn. */
    static long packed(int... moreAndValues) {
        long v = 0;
        for (int i = 0; i + 1 < moreAndValues.length; i += 2) {
            v = v << 16 | (long) moreAndValues[i] << 9 | moreAndValues[i + 1];
        }
        return v;
    }
}
