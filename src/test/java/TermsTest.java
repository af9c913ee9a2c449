/** The section Terms, sentence by sentence: rows, END, names, groups, shifts, masks, and when values AGREE. */
public final class TermsTest {
    private static final int NONE = WavePairs.NONE, BAD = WavePairs.BAD, NO = WavePairs.NO, FULL = WavePairs.FULL;
    private static final Check check = new Check();

    public static void main(String[] args) {
        runsHaveSignals();
        fiftyChangesAtMost();
        allRowsFull();
        ticksRise();
        values();
        likeValuesSideBySide();
        latestChangeNotBehind();
        endAtFirst();
        endInEveryQuestion();
        endLeastAndMost();
        endBindsNoRow();
        namesAtFirst();
        twoMayHaveOneName();
        groupByRunZero();
        shiftAheadOfZero();
        shiftBehindEnd();
        shiftBehindTheLastTick();
        tenMasksAtMost();
        masksFromAUpToB();
        masksMeetAndOverlap();
        maskWhileAtThatTick();
        nothingIsHeldAgainstThere();
        valuesAgree();
        looseWhereValuesAgree();
        looseNowhereElse();
        check.end();
    }

    private static void span(String what, WavePairs x, int i, int signal, int from, int upTo) {
        check.due(what + ": SIGNAL", x.difference(i, 0), signal);
        check.due(what + ": from", x.difference(i, 1), from);
        check.due(what + ": up to", x.difference(i, 2), upTo);
    }

    private static WavePairs withEnd(int end) {
        WavePairs x = new WavePairs();
        x.rule(0, end);
        return x;
    }

    /** "RUNS 0, 1 have SIGNALS 0 to 11": 24 rows, none of them another. */
    private static void runsHaveSignals() {
        WavePairs x = new WavePairs();
        for (int run = 0; run < 2; run++) {
            for (int s = 0; s < 12; s++) {
                check.due("a row of its own", x.change(run, s, s, 100 * run + s), 1);
            }
        }
        for (int run = 0; run < 2; run++) {
            for (int s = 0; s < 12; s++) {
                check.due("its own VALUE", x.value(run, s, 11), 100 * run + s);
                check.due("from its own TICK on", x.value(run, s, s - 1), s == 0 ? BAD : 256);
            }
        }
        check.due("24 rows", x.count(0), 24);
    }

    /** "CHANGES, 50 at most". */
    private static void fiftyChangesAtMost() {
        for (int s = 0; s < 12; s += 11) {
            WavePairs x = new WavePairs();
            for (int i = 0; i < 50; i++) {
                check.due("change " + i, x.change(1, s, 2 * i, i), i + 1);
            }
            check.due("the 51st", x.change(1, s, 100, 1), FULL);
            check.due("the 50th stands", x.value(1, s, 3999), 49);
            check.due("the 49th stands", x.value(1, s, 97), 48);
            check.due("the first stands", x.value(1, s, 0), 0);
            check.due("cut one", x.cut(1, s, 98), 1);
            check.due("room again", x.change(1, s, 99, 7), 50);
            check.due("for no more than one", x.change(1, s, 100, 1), FULL);
            check.due("cut all", x.cut(1, s, 0), 50);
            check.due("room for the first", x.change(1, s, 0, 1), 1);
        }
    }

    /** All rows FULL at once, and questions that walk over all of their changes. */
    private static void allRowsFull() {
        WavePairs x = withEnd(4000);
        for (int run = 0; run < 2; run++) {
            for (int s = 0; s < 12; s++) {
                for (int i = 0; i < 12; i++) {
                    x.changes(run, s, 4, Check.packed(2, run, 2, 2, 2, run, 2, 2));
                }
                check.due("50", x.changes(run, s, 2, Check.packed(2, run, 2, 2)), 50);
            }
        }
        check.due("24 times 50", x.count(0), 1200);
        check.due("every other CHANGE differs", x.differences(), 12 * 25);
        span("the first", x, 0, 0, 1, 3);
        span("the last of the first SIGNAL", x, 24, 0, 97, 99);
        span("the last", x, 299, 11, 97, 99);
        check.due("no more", x.difference(300, 0), NONE);
        check.due("all of the row", x.window(1, 11, 0, 4000, 0), 50);
        check.due("25 spans hold", x.holds(1, 11, 1, 11, 0, 1, -1, 0), 25);
        check.due("the last holds", x.holds(1, 11, 2, 11, 0, 1, 24, 1), 4000);
    }

    /** "each at a TICK (0 to 3999, rising)". */
    private static void ticksRise() {
        WavePairs x = new WavePairs();
        check.due("TICK 0", x.change(0, 0, 0, 1), 1);
        check.due("the like TICK", x.change(0, 0, 0, 2), NO);
        check.due("the next TICK", x.change(0, 0, 1, 3), 2);
        check.due("a TICK ahead", x.change(0, 0, 0, 2), NO);
        check.due("TICK 3998", x.change(0, 0, 3998, 4), 3);
        check.due("TICK 3999", x.change(0, 0, 3999, 5), 4);
        check.due("TICK 3999 again", x.change(0, 0, 3999, 6), NO);
        check.due("TICK 4000", x.change(0, 0, 4000, 6), BAD);
        check.due("by changes too", x.changes(0, 0, 1, Check.packed(1, 6)), BAD);
        check.due("what stands at 0", x.value(0, 0, 0), 1);
        check.due("what stands at 1", x.value(0, 0, 1), 3);
        check.due("what stands at 3998", x.value(0, 0, 3998), 4);
        check.due("what stands at 3999", x.value(0, 0, 3999), 5);
    }

    /** "to a VALUE: 0 to 255, or 256: NOT KNOWN". */
    private static void values() {
        WavePairs x = withEnd(4000);
        int[] all = {0, 1, 254, 255, 256};
        for (int i = 0; i < all.length; i++) {
            check.due("VALUE " + all[i], x.change(0, 0, i, all[i]), i + 1);
            check.due("VALUE " + all[i] + ", packed", x.changes(1, 0, 1, Check.packed(1, all[i])), i + 1);
        }
        for (int i = 0; i < all.length; i++) {
            check.due("reads back", x.value(0, 0, i), all[i]);
            check.due("reads back, packed", x.value(1, 0, i), all[i]);
        }
        check.due("255 is KNOWN", x.window(0, 0, 3, 4, 1), 0);
        check.due("256 is not", x.window(0, 0, 4, 5, 1), 1);
        check.due("0 is KNOWN", x.window(0, 0, 0, 1, 1), 0);
        check.due("256 is no part of a sum", x.window(0, 0, 0, 4000, 2), 1 + 254 + 255);
    }

    /** "two CHANGES side by side may be to the like VALUE": they count, but nothing begins or ends there. */
    private static void likeValuesSideBySide() {
        WavePairs x = withEnd(100);
        Check.row(x, 0, 0, 10, 1, 20, 1, 30, 1);
        check.due("they count", x.count(0), 3);
        check.due("one DIFFERENCE", x.differences(), 1);
        span("through all of them", x, 0, 0, 10, 100);
        check.due("one span holds", x.holds(0, 0, 1, 0, 0, 1, -1, 0), 1);
        check.due("through all of them", x.holds(0, 0, 1, 0, 0, 90, 0, 1), 100);
        check.due("one to another VALUE", x.window(0, 0, 0, 100, 0), 1);
        Check.row(x, 1, 3, 10, 1);
        check.due("they behave like one", x.alike(0), 1 << 3);
        Check.row(x, 0, 1, 0, 1);
        x.channel(0, 0, 1, 1, 1);
        check.due("one edge", x.act(0, 0, -1, 0), 1);
        check.due("the first", x.act(0, 0, 0, 0), 10);
        x.call(0, 0, 3);
        Check.row(x, 0, 2, 40, 1);
        x.gate(2, 6, 5, 0);
        check.due("the latest edge is the first in both", x.guilty(50), 2);
        Check.row(x, 1, 4, 10, 2, 15, 2);
        x.call(0, 0, 4);
        span("like VALUES in both RUNS", x, 0, 0, 10, 100);
    }

    /** "Its VALUE at a TICK is that of the latest CHANGE not behind; ahead of the first NOT KNOWN". */
    private static void latestChangeNotBehind() {
        WavePairs x = new WavePairs();
        check.due("no CHANGE at all", x.value(0, 0, 3999), 256);
        Check.row(x, 0, 0, 7, 9, 8, 4, 100, 256, 101, 0);
        check.due("ahead of the first", x.value(0, 0, 6), 256);
        check.due("TICK 0", x.value(0, 0, 0), 256);
        check.due("at the first", x.value(0, 0, 7), 9);
        check.due("at the next", x.value(0, 0, 8), 4);
        check.due("between", x.value(0, 0, 99), 4);
        check.due("to NOT KNOWN", x.value(0, 0, 100), 256);
        check.due("and from it", x.value(0, 0, 101), 0);
        check.due("behind the last", x.value(0, 0, 3999), 0);
        Check.row(x, 1, 0, 0, 9);
        check.due("a CHANGE at TICK 0", x.value(1, 0, 0), 9);
    }

    /** "END (1 to 4000; 1000 at first)". */
    private static void endAtFirst() {
        WavePairs x = new WavePairs();
        check.due("the last TICK", x.guilty(999), NONE);
        check.due("END", x.guilty(1000), BAD);
        check.due("a window to END", x.window(0, 0, 999, 1000, 1), 1);
        check.due("a window beyond", x.window(0, 0, 999, 1001, 1), BAD);
        Check.row(x, 0, 0, 1000, 1);
        check.due("at END nothing is looked at", x.differences(), 0);
        Check.row(x, 0, 1, 999, 1);
        span("at END - 1 it is", x, 0, 1, 999, 1000);
        check.due("END is what it was", x.rule(0, 1), 1000);
    }

    /** "TICKS 0 to END - 1 are looked at": something is at TICK 10, with END there and with END behind it. */
    private static void endInEveryQuestion() {
        WavePairs x = withEnd(10);
        Check.row(x, 0, 0, 10, 1);
        Check.row(x, 0, 1, 0, 1);
        Check.row(x, 1, 1, 0, 1);
        x.call(0, 1, 1);
        x.channel(0, 0, 1, 1, 1);
        x.gate(0, 1, 1, 0);
        check.due("12 ahead", x.differences(), 0);
        check.due("13 ahead", x.difference(0, 1), NONE);
        check.due("14 ahead", x.first(), NONE);
        check.due("16 ahead", x.act(0, 0, -1, 0), 0);
        check.due("16 ahead", x.act(0, 0, 0, 0), NONE);
        check.due("17 ahead", x.unlike(0), NONE);
        check.due("18 ahead", x.fit(1), 0);
        check.due("20 ahead", x.guilty(10), BAD);
        check.due("21 ahead", x.alike(0), 4095 & ~2);
        check.due("22 ahead", x.holds(0, 0, 1, 0, 0, 1, -1, 0), 0);
        check.due("22 ahead, to END", x.holds(0, 0, 256, 0, 0, 10, 0, 1), 10);
        check.due("23 ahead", x.window(0, 0, 0, 11, 0), BAD);
        x.rule(0, 11);
        check.due("12 behind", x.differences(), 1);
        span("13 behind", x, 0, 0, 10, 11);
        check.due("14 behind", x.first(), 10);
        check.due("16 behind", x.act(0, 0, -1, 0), 1);
        check.due("16 behind", x.act(0, 0, 0, 0), 10);
        check.due("17 behind", x.unlike(0), 0);
        check.due("18 behind: a SHIFT that leaves TICK 10 out", x.fit(1), 1);
        check.due("20 behind", x.guilty(10), 0);
        check.due("21 behind", x.alike(0), 0);
        check.due("22 behind", x.holds(0, 0, 1, 0, 0, 1, 0, 1), 11);
        check.due("23 behind", x.window(0, 0, 0, 11, 0), 1);
    }

    private static void endLeastAndMost() {
        WavePairs x = withEnd(1);
        Check.row(x, 0, 0, 0, 1, 1, 2);
        check.due("END 1: one TICK", x.differences(), 1);
        span("END 1", x, 0, 0, 0, 1);
        check.due("END 1: first", x.first(), 0);
        check.due("END 1: fit", x.fit(0), -1004);
        check.due("END 1: guilty", x.guilty(0), NONE);
        check.due("END 1: guilty behind", x.guilty(1), BAD);
        check.due("END 1: holds", x.holds(0, 0, 1, 0, 0, 1, 0, 1), 1);
        check.due("END 1: none of two TICKS", x.holds(0, 0, 1, 0, 0, 2, -1, 0), 0);
        check.due("END 1: window", x.window(0, 0, 0, 1, 2), 1);
        check.due("END 1: alike", x.alike(1), 4095);
        check.due("then END 4000", x.rule(0, 4000), 1);
        Check.row(x, 1, 5, 3999, 7);
        check.due("END 4000: the last TICK differs", x.differences(), 2);
        span("END 4000", x, 1, 5, 3999, 4000);
        check.due("END 4000: guilty", x.guilty(3999), NONE);
        check.due("END 4000: guilty behind", x.guilty(4000), BAD);
        check.due("END 4000: holds", x.holds(1, 5, 7, 5, 0, 1, 0, 1), 4000);
        check.due("END 4000: window", x.window(1, 5, 0, 4000, 2), 7);
        check.due("END 4000: window, one TICK", x.window(1, 5, 3999, 4000, 0), 1);
        check.due("END 4000: alike", x.alike(5), 4095 & ~32);
        Check.row(x, 1, 6, 0, 1);
        x.channel(0, 4, 6, 6, 5);
        Check.row(x, 1, 4, 3999, 1);
        check.due("END 4000: an ACT", x.act(0, 1, 0, 0), 3999);
    }

    /** What is told, cut and read is not bound by END. */
    private static void endBindsNoRow() {
        WavePairs x = withEnd(1);
        check.due("told", x.change(0, 0, 3999, 5), 1);
        check.due("read", x.value(0, 0, 3999), 5);
        check.due("counted", x.count(0), 1);
        check.due("masked", x.mask(0, 3999, 4000), 1);
        check.due("cut", x.cut(0, 0, 3999), 1);
    }

    /** "SIGNAL s of RUN 0 is held against SIGNAL NAME s of RUN 1 (s at first". */
    private static void namesAtFirst() {
        for (int s = 0; s < 12; s++) {
            WavePairs x = withEnd(100);
            Check.row(x, 0, s, 5, 1);
            Check.row(x, 1, s, 5, 1);
            check.due("against its own number", x.differences(), 0);
            int other = 11 - s;
            check.due("its NAME was its own number", x.call(s, 0, other), s);
            span("against another's", x, 0, s, 5, 100);
            check.due("and no more of them: the other keeps its NAME", x.differences(), 1);
            check.due("the NAME stays", x.call(s, 0, s), other);
            check.due("against its own again", x.differences(), 0);
        }
    }

    /** "two may have one)": all twelve may; and what no SIGNAL is named by is held against nothing. */
    private static void twoMayHaveOneName() {
        WavePairs x = withEnd(100);
        for (int s = 0; s < 12; s++) {
            Check.row(x, 0, s, 5, 1);
            check.due("one NAME for all", x.call(s, 0, 11), s);
        }
        check.due("all differ", x.differences(), 12);
        Check.row(x, 1, 11, 5, 1);
        check.due("none differs", x.differences(), 0);
        Check.row(x, 1, 3, 7, 9);
        check.due("no SIGNAL has that NAME", x.differences(), 0);
        check.due("fits", x.fit(0), 0);
    }

    /** "GROUP of SIGNAL s (0 to 3; 0 at first), by RUN 0". */
    private static void groupByRunZero() {
        WavePairs x = withEnd(100);
        Check.row(x, 0, 2, 10, 1);
        Check.row(x, 1, 5, 13, 1);
        x.call(2, 0, 5);
        x.call(5, 0, 6);
        x.shift(0, 3);
        check.due("GROUP 0 at first", x.differences(), 0);
        check.due("into GROUP 3", x.call(2, 1, 3), 0);
        check.due("no SHIFT there", x.differences(), 1);
        x.call(5, 1, 1);
        x.shift(1, 3);
        x.shift(0, 0);
        check.due("not the GROUP of its NAME", x.differences(), 1);
        x.shift(3, 3);
        check.due("but its own", x.differences(), 0);
        check.due("fits too", x.fit(3), 3);
        check.due("only its own", x.fit(0), 0);
    }

    /** "(ahead of 0 NOT KNOWN": by SHIFT -50 the first 50 TICKS are held against nothing that is KNOWN. */
    private static void shiftAheadOfZero() {
        for (int k = 1; k <= 50; k++) {
            WavePairs x = withEnd(100);
            x.shift(0, -k);
            Check.row(x, 1, 2, 0, 7);
            Check.row(x, 0, 2, k, 7);
            check.due("SHIFT " + -k + ": NOT KNOWN to that TICK", x.differences(), 0);
            x.cut(0, 2, 0);
            x.change(0, 2, k - 1, 7);
            span("SHIFT " + -k + ": KNOWN too soon", x, 0, 2, k - 1, k);
            x.cut(0, 2, 0);
            x.change(0, 2, k + 1, 7);
            span("SHIFT " + -k + ": KNOWN too late", x, 0, 2, k, k + 1);
            x.rule(1, 1);
            check.due("SHIFT " + -k + ": loose", x.differences(), 0);
        }
    }

    /** "behind END - 1 as the row tells)". */
    private static void shiftBehindEnd() {
        for (int k = 1; k <= 50; k++) {
            WavePairs x = withEnd(100);
            x.shift(0, k);
            Check.row(x, 0, 2, 0, 7);
            Check.row(x, 1, 2, k, 7, 100 + k, 8);
            check.due("SHIFT " + k + ": behind what is looked at", x.differences(), 0);
            x.cut(1, 2, 100 + k);
            x.change(1, 2, 99 + k, 8);
            span("SHIFT " + k + ": the row tells at the last TICK", x, 0, 2, 99, 100);
            check.due("SHIFT " + k + ": first", x.first(), 99);
        }
    }

    /** Behind TICK 3999 there are no CHANGES, so the row tells its latest VALUE there. */
    private static void shiftBehindTheLastTick() {
        WavePairs x = withEnd(4000);
        x.shift(0, 50);
        Check.row(x, 0, 2, 0, 7, 3949, 8);
        Check.row(x, 1, 2, 0, 7, 3999, 8);
        check.due("to the last TICK alike", x.differences(), 0);
        x.change(0, 2, 3999, 9);
        span("the last TICK", x, 0, 2, 3999, 4000);
        x.cut(0, 2, 3999);
        x.cut(1, 2, 3999);
        span("the last 51", x, 0, 2, 3949, 4000);
    }

    /** "MASKS, 10 at most": of both kinds together, and ten again when they are gone. */
    private static void tenMasksAtMost() {
        for (int ofTicks = 0; ofTicks <= 10; ofTicks++) {
            WavePairs x = new WavePairs();
            for (int again = 0; again < 2; again++) {
                for (int i = 0; i < 10; i++) {
                    check.due("how many", i < ofTicks ? x.mask(i, 0, 1) : x.maskWhile(i, 0, 1), i + 1);
                }
                check.due("the 11th of TICKS", x.mask(0, 0, 1), FULL);
                check.due("the 11th while", x.maskWhile(0, 0, 1), FULL);
                check.due("ten", x.count(1), 10);
                check.due("all go", x.noMasks(), 10);
                check.due("none", x.noMasks(), 0);
            }
        }
    }

    /** "TICKS from a on, up to b (a below b, to 4000)". */
    private static void masksFromAUpToB() {
        WavePairs x = withEnd(4000);
        Check.row(x, 0, 4, 0, 1);
        x.mask(4, 0, 1);
        span("the first TICK", x, 0, 4, 1, 4000);
        x.noMasks();
        x.mask(4, 3999, 4000);
        span("the last TICK", x, 0, 4, 0, 3999);
        x.noMasks();
        x.mask(4, 20, 21);
        check.due("one TICK between", x.differences(), 2);
        span("ahead of it", x, 0, 4, 0, 20);
        span("behind it", x, 1, 4, 21, 4000);
        x.noMasks();
        x.mask(4, 0, 4000);
        check.due("all TICKS", x.differences(), 0);
        x.noMasks();
        x.mask(4, 1, 3999);
        span("all but the first", x, 0, 4, 0, 1);
        span("and the last", x, 1, 4, 3999, 4000);
        x.rule(0, 3999);
        check.due("END ahead of b", x.differences(), 1);
        x.rule(0, 4000);
        x.noMasks();
        x.mask(4, 20, 30);
        x.shift(0, 5);
        span("by RUN 0's TICKS whatever the SHIFT", x, 0, 4, 0, 20);
        span("and behind them", x, 1, 4, 30, 4000);
        x.call(4, 0, 9);
        span("by RUN 0's number whatever the NAME", x, 0, 4, 0, 20);
    }

    private static void masksMeetAndOverlap() {
        WavePairs x = withEnd(100);
        Check.row(x, 0, 4, 10, 1, 90, 256);
        x.mask(4, 20, 30);
        x.mask(4, 30, 40);
        check.due("side by side", x.differences(), 2);
        span("behind both", x, 1, 4, 40, 90);
        x.mask(4, 35, 50);
        span("overlapping", x, 1, 4, 50, 90);
        x.mask(4, 36, 37);
        span("one within another", x, 1, 4, 50, 90);
        x.mask(4, 52, 53);
        span("one TICK between two", x, 1, 4, 50, 52);
        x.mask(4, 0, 11);
        span("over the first TICK", x, 0, 4, 11, 20);
        x.mask(4, 89, 100);
        span("over the last TICK", x, 2, 4, 53, 89);
    }

    /** "or of a SIGNAL, while another one (of RUN 0, at that TICK) has a VALUE". */
    private static void maskWhileAtThatTick() {
        WavePairs x = withEnd(100);
        Check.row(x, 0, 4, 0, 1);
        Check.row(x, 0, 7, 20, 0, 30, 255, 40, 256);
        Check.row(x, 1, 7, 20, 0, 30, 255, 40, 256);
        x.maskWhile(4, 7, 0);
        span("ahead of 0", x, 0, 4, 0, 20);
        span("behind 0", x, 1, 4, 30, 100);
        x.noMasks();
        x.maskWhile(4, 7, 255);
        span("ahead of 255", x, 0, 4, 0, 30);
        span("behind 255", x, 1, 4, 40, 100);
        x.noMasks();
        x.maskWhile(4, 7, 256);
        check.due("NOT KNOWN, also ahead of the first CHANGE", x.differences(), 1);
        span("between", x, 0, 4, 20, 40);
        x.maskWhile(4, 7, 1);
        span("a VALUE that it never has", x, 0, 4, 20, 40);
        x.noMasks();
        x.maskWhile(4, 8, 1);
        Check.row(x, 1, 8, 0, 1);
        span("RUN 1 has that VALUE, RUN 0 has not", x, 0, 4, 0, 100);
        x.noMasks();
        x.maskWhile(7, 7, 256);
        span("while it has a VALUE itself: another one stays", x, 0, 4, 0, 100);
    }

    /** "Nothing is held against there": by differences, difference, first and fit; the others look at no MASK. */
    private static void nothingIsHeldAgainstThere() {
        WavePairs x = withEnd(100);
        Check.row(x, 0, 4, 99, 1);
        check.due("12 held against", x.differences(), 1);
        x.mask(4, 99, 100);
        check.due("12", x.differences(), 0);
        check.due("13", x.difference(0, 0), NONE);
        check.due("14", x.first(), NONE);
        check.due("18", x.fit(0), 0);
        check.due("21 looks at no MASK", x.alike(4), 0);
        x.gate(4, 1, 0, 0);
        check.due("20 looks at no MASK", x.guilty(99), 4);
        check.due("22 looks at no MASK", x.holds(0, 4, 1, 4, 0, 1, 0, 0), 99);
        check.due("23 looks at no MASK", x.window(0, 4, 99, 100, 2), 1);
    }

    /** "VALUES AGREE, if they are alike; with LOOSE 1 (0 at first) also if one is NOT KNOWN". */
    private static void valuesAgree() {
        int[] all = {0, 1, 255, 256};
        for (int v : all) {
            for (int w : all) {
                WavePairs x = withEnd(1);
                x.change(0, 3, 0, v);
                x.change(1, 3, 0, w);
                String both = v + " against " + w;
                check.due(both, x.differences(), v == w ? 0 : 1);
                check.due("LOOSE 0 at first", x.rule(1, 1), 0);
                check.due(both + ", loose", x.differences(), v == w || v == 256 || w == 256 ? 0 : 1);
                check.due("LOOSE was 1", x.rule(1, 0), 1);
                check.due(both + ", strict again", x.differences(), v == w ? 0 : 1);
            }
        }
        WavePairs x = new WavePairs();
        x.change(0, 3, 5, 256);
        check.due("NOT KNOWN as no CHANGE is", x.differences(), 0);
    }

    private static void looseWhereValuesAgree() {
        WavePairs x = withEnd(100);
        for (int run = 0; run < 2; run++) {
            Check.row(x, run, 0, 0, 0, 10, 1);
            Check.row(x, run, 1, 0, 1);
        }
        Check.row(x, 0, 2, 5, 9);
        x.call(2, 1, 1);
        x.channel(0, 0, 1, 1, 2);
        x.gate(2, 1, 1, 0);
        for (int loose = 0; loose < 2; loose++) {
            x.rule(1, loose);
            boolean is = loose == 1;
            check.due("12 LOOSE " + loose, x.differences(), is ? 0 : 1);
            check.due("13 LOOSE " + loose, x.difference(0, 1), is ? NONE : 5);
            check.due("14 LOOSE " + loose, x.first(), is ? NONE : 5);
            check.due("17 LOOSE " + loose, x.unlike(0), is ? NONE : 0);
            check.due("18 LOOSE " + loose, x.fit(1), is ? 0 : -1004);
            check.due("20 LOOSE " + loose, x.guilty(50), is ? NONE : 2);
            check.due("21 LOOSE " + loose, x.alike(2), is ? 4095 & ~3 : 0);
        }
    }

    /** What has a told VALUE, or another one, is no matter of AGREEING. */
    private static void looseNowhereElse() {
        WavePairs x = withEnd(100);
        x.rule(1, 1);
        Check.row(x, 0, 0, 10, 1, 20, 0, 30, 1);
        Check.row(x, 0, 1, 15, 1);
        x.channel(0, 0, 1, 1, 1);
        check.due("16 an edge from NOT KNOWN; a valid NOT KNOWN is not 1", x.act(0, 0, -1, 0), 1);
        check.due("16 that one", x.act(0, 0, 0, 0), 30);
        x.channel(1, 0, 0, 0, 0);
        check.due("16 ahead of an edge there was another VALUE than 1", x.act(1, 0, -1, 0), 0);
        check.due("22 a VALUE, not NOT KNOWN", x.holds(0, 1, 1, 1, 0, 1, 0, 0), 15);
        check.due("22 has not 1 while NOT KNOWN", x.holds(0, 0, 1, 1, 1, 1, 0, 1), 15);
        check.due("23 from NOT KNOWN to a VALUE", x.window(0, 1, 0, 100, 0), 1);
        check.due("5 as told", x.value(0, 1, 14), 256);
        check.due("12 all AGREE", x.differences(), 0);
        check.due("22 not NOT KNOWN, behind differences too", x.holds(0, 1, 1, 1, 0, 1, 0, 0), 15);
        Check.row(x, 0, 5, 0, 1);
        Check.row(x, 1, 5, 0, 2);
        x.maskWhile(5, 1, 1);
        span("10 NOT KNOWN is no told VALUE", x, 0, 5, 0, 15);
    }
}
