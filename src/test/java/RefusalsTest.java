import java.util.Arrays;
import java.util.function.Consumer;

/**
 * "BAD: a number is none that is told, there is no such thing. NO: not as things stand. FULL. Of several the first;
 * nothing changes then." For every call: each number just outside its bounds, and at them; what is refused as things
 * stand; and behind each refusal an object that is as it was.
 */
public final class RefusalsTest {
    private static final int BAD = WavePairs.BAD, NO = WavePairs.NO, FULL = WavePairs.FULL;
    private static final int MIN = Integer.MIN_VALUE, MAX = Integer.MAX_VALUE;
    private static final int[] RUN = {0, 1}, SIGNAL = {0, 11}, TICK = {0, 3999}, VALUE = {0, 256}, FOUR = {0, 3};
    private static final int[] AS_ANSWERED = {-1, MAX}, ANY = {MIN, MAX};
    private static final Check check = new Check();

    private interface Call {
        int on(WavePairs x, int[] a);
    }

    public static void main(String[] args) {
        boundsOfRows();
        boundsOfRules();
        boundsOfMasks();
        boundsOfQuestions();
        boundsOfChannels();
        boundsOfGates();
        changesByParts();
        notAsThingsStand();
        full();
        ofSeveralTheFirst();
        questionsChangeNothing();
        check.end();
    }

    /** Each of a call's numbers by turns outside its bounds, the others staying good; and by turns at its bounds. */
    private static void bounds(String name, Call call, int bad, int[] good, int[]... bounds) {
        for (int at = 0; at < good.length; at++) {
            long least = bounds[at][0];
            long most = bounds[at][1];
            for (long wrong : new long[] {least - 1, most + 1, MIN, MAX}) {
                if (wrong >= MIN && wrong <= MAX && (wrong < least || wrong > most)) {
                    refused(name, World::tell, call, with(good, at, (int) wrong), bad);
                }
            }
            taken(name, call, with(good, at, (int) least), bad);
            taken(name, call, with(good, at, (int) most), bad);
        }
    }

    private static int[] with(int[] good, int at, int number) {
        int[] numbers = good.clone();
        numbers[at] = number;
        return numbers;
    }

    private static void refused(String name, Consumer<WavePairs> told, Call call, int[] numbers, int due) {
        Twins.nothingChanges(check, name + Arrays.toString(numbers), told, x -> call.on(x, numbers), due);
    }

    private static void taken(String name, Call call, int[] numbers, int bad) {
        WavePairs x = new WavePairs();
        World.tell(x);
        int answer = call.on(x, numbers);
        check.yes(name + Arrays.toString(numbers) + " is taken, not " + answer,
            answer != bad && answer != NO && answer != FULL);
    }

    private static int change(WavePairs x, int[] a) {
        return x.change(a[0], a[1], a[2], a[3]);
    }

    private static int changes(WavePairs x, int[] a) {
        return x.changes(a[0], a[1], a[2], Check.packed(1, 1, 1, 2, 1, 3, 1, 4));
    }

    private static void boundsOfRows() {
        bounds("2 change", RefusalsTest::change, BAD, new int[] {0, 9, 3000, 3}, RUN, SIGNAL, TICK, VALUE);
        bounds("3 changes", RefusalsTest::changes, BAD, new int[] {0, 9, 4}, RUN, SIGNAL, new int[] {1, 4});
        bounds("4 cut", (x, a) -> x.cut(a[0], a[1], a[2]), BAD, new int[] {0, 3, 29}, RUN, SIGNAL, TICK);
        bounds("5 value", (x, a) -> x.value(a[0], a[1], a[2]), BAD, new int[] {0, 3, 29}, RUN, SIGNAL, TICK);
    }

    private static void boundsOfRules() {
        int[] what = {0, 1};
        Call rule = (x, a) -> x.rule(a[0], a[1]);
        bounds("6 rule, END", rule, BAD, new int[] {0, 1}, what, new int[] {1, 4000});
        bounds("6 rule, LOOSE", rule, BAD, new int[] {1, 1}, what, new int[] {0, 1});
        Call call = (x, a) -> x.call(a[0], a[1], a[2]);
        bounds("7 call, NAME", call, BAD, new int[] {3, 0, 2}, SIGNAL, what, SIGNAL);
        bounds("7 call, GROUP", call, BAD, new int[] {3, 1, 2}, SIGNAL, what, FOUR);
        bounds("8 shift", (x, a) -> x.shift(a[0], a[1]), -1000, new int[] {2, 5}, FOUR, new int[] {-50, 50});
    }

    private static void boundsOfMasks() {
        // "a below b, to 4000": from 0 on, so a goes to b - 1 and b from a + 1 on.
        bounds("9 mask", (x, a) -> x.mask(a[0], a[1], a[2]), BAD, new int[] {3, 10, 20},
            SIGNAL, new int[] {0, 19}, new int[] {11, 4000});
        bounds("10 maskWhile", (x, a) -> x.maskWhile(a[0], a[1], a[2]), BAD, new int[] {3, 2, 1},
            SIGNAL, SIGNAL, VALUE);
    }

    private static void boundsOfQuestions() {
        int[] two = {0, 1};
        int[] three = {0, 2};
        bounds("13 difference", (x, a) -> x.difference(a[0], a[1]), BAD, new int[] {1, 1}, new int[] {0, MAX}, three);
        bounds("18 fit", (x, a) -> answerOfFit(x, a[0]), -1001, new int[] {2}, FOUR);
        bounds("20 guilty", (x, a) -> x.guilty(a[0]), BAD, new int[] {101}, new int[] {0, World.END - 1});
        bounds("21 alike", (x, a) -> x.alike(a[0]), BAD, new int[] {3}, SIGNAL);
        bounds("22 holds", (x, a) -> x.holds(a[0], a[1], a[2], a[3], a[4], a[5], a[6], a[7]), BAD,
            new int[] {0, 0, 1, 3, 50, 2, 0, 0}, RUN, SIGNAL, VALUE, SIGNAL, VALUE, new int[] {1, 4000},
            AS_ANSWERED, two);
        bounds("23 window", (x, a) -> x.window(a[0], a[1], a[2], a[3], a[4]), BAD, new int[] {0, 3, 10, 20, 2},
            RUN, SIGNAL, new int[] {0, 19}, new int[] {11, World.END}, three);
        bounds("24 count", (x, a) -> x.count(a[0]), BAD, new int[] {1}, FOUR);
    }

    /** A SHIFT of -1 or -2 is as good an answer as another, so the refusals are told apart by their own numbers. */
    private static int answerOfFit(WavePairs x, int group) {
        int k = x.fit(group);
        return k >= -50 && k <= 50 ? 0 : k;
    }

    private static void boundsOfChannels() {
        // Other signals than those that channel 0 has: a refusal that kept one of them would show.
        bounds("15 channel", (x, a) -> x.channel(a[0], a[1], a[2], a[3], a[4]), BAD, new int[] {0, 2, 0, 6, 4},
            FOUR, SIGNAL, SIGNAL, SIGNAL, SIGNAL);
        bounds("16 act", (x, a) -> x.act(a[0], a[1], a[2], a[3]), BAD, new int[] {0, 1, 1, 1},
            FOUR, RUN, AS_ANSWERED, new int[] {0, 1});
        bounds("17 unlike", (x, a) -> x.unlike(a[0]), BAD, new int[] {0}, FOUR);
    }

    private static void boundsOfGates() {
        Call gate = (x, a) -> x.gate(a[0], a[1], a[2], a[3]);
        int[] kinds = {0, 6};
        for (int kind = 2; kind <= 6; kind++) {
            // Signal 8 is a GATE of 1, 2: a refusal that kept a kind or an input would show.
            bounds("19 gate", gate, BAD, new int[] {8, kind, 4, 5}, SIGNAL, kinds, SIGNAL, SIGNAL);
            refused("19 gate of itself by a", World::tell, gate, new int[] {8, kind, 8, 5}, BAD);
            refused("19 gate of itself by b", World::tell, gate, new int[] {8, kind, 4, 8}, BAD);
            refused("19 gate of itself by both", World::tell, gate, new int[] {8, kind, 8, 8}, BAD);
        }
        bounds("19 gate", gate, BAD, new int[] {8, 1, 4, 5}, SIGNAL, kinds, SIGNAL, ANY);
        refused("19 gate of itself", World::tell, gate, new int[] {8, 1, 8, 5}, BAD);
        bounds("19 no gate", gate, BAD, new int[] {8, 0, 4, 5}, SIGNAL, kinds, SIGNAL, ANY);
        for (int b : new int[] {MIN, -1, 8, 12, MAX}) {
            taken("19 b is not looked at for 1", gate, new int[] {8, 1, 4, b}, BAD);
            taken("19 b is not looked at for 0", gate, new int[] {8, 0, 4, b}, BAD);
        }
    }

    /** "BAD (also 0 TICKS, a VALUE that is none, a TICK beyond 3999)": in each part of each number of parts. */
    private static void changesByParts() {
        for (int n = 1; n <= 4; n++) {
            for (int part = 0; part < n; part++) {
                refusedPart("3 changes, 0 TICKS", World::tell, n, part, 0, 1);
                refusedPart("3 changes, VALUE 257", World::tell, n, part, 1, 257);
                refusedPart("3 changes, VALUE 511", World::tell, n, part, 127, 511);
                int last = 3999 - part;
                refusedPart("3 changes, TICK 4000", x -> tellLate(x, last), n, part, 1, 1);
            }
        }
    }

    private static void tellLate(WavePairs x, int tick) {
        World.tell(x);
        x.change(0, 9, tick, 7);
    }

    private static void refusedPart(String name, Consumer<WavePairs> told, int n, int part, int more, int value) {
        int[] parts = new int[2 * n];
        Arrays.fill(parts, 1);
        parts[2 * part] = more;
        parts[2 * part + 1] = value;
        long v = Check.packed(parts);
        Twins.nothingChanges(check, name + " in part " + part + " of " + n, told, x -> x.changes(0, 9, n, v), BAD);
    }

    /** "NO: a CHANGE is at that TICK or behind", "NO: it was not told", "NO: the GROUP has no SIGNAL". */
    private static void notAsThingsStand() {
        for (int tick : new int[] {49, 48, 29, 28, 0}) {
            refused("2 change, ahead of the latest", World::tell, RefusalsTest::change, new int[] {0, 3, tick, 9}, NO);
        }
        taken("2 change, behind the latest", RefusalsTest::change, new int[] {0, 3, 50, 9}, BAD);
        for (int channel = 1; channel < 3; channel++) {
            int c = channel;
            for (int run = 0; run < 2; run++) {
                int r = run;
                for (int i = -1; i < 2; i++) {
                    int k = i;
                    Twins.nothingChanges(check, "16 act, not told", World::tell, x -> x.act(c, r, k, 0), NO);
                }
            }
            Twins.nothingChanges(check, "17 unlike, not told", World::tell, x -> x.unlike(c), NO);
        }
        Twins.nothingChanges(check, "18 fit, no SIGNAL", World::tell, x -> x.fit(1), -1002);
    }

    /** A world whose signal 9 has some changes, at TICKS 0, 1, .. */
    private static void tellFilled(WavePairs x, int size) {
        World.tell(x);
        for (int i = 0; i < size; i += 2) {
            x.changes(0, 9, Math.min(2, size - i), size - i == 1 ? Check.packed(1, 5) : Check.packed(1, 5, 1, 6));
        }
    }

    private static void tellTenMasks(WavePairs x) {
        World.tell(x);
        for (int i = 4; i < 10; i++) {
            x.mask(3, 30 + i, 31 + i);
        }
    }

    private static void full() {
        refused("2 change, FULL", x -> tellFilled(x, 50), RefusalsTest::change, new int[] {0, 9, 50, 1}, FULL);
        refused("2 change, FULL", x -> tellFilled(x, 50), RefusalsTest::change, new int[] {0, 9, 3999, 256}, FULL);
        for (int n = 1; n <= 4; n++) {
            int most = n;
            long v = Check.packed(Arrays.copyOf(new int[] {1, 1, 1, 2, 1, 3, 1, 4}, 2 * n));
            for (int room = 0; room < n; room++) {
                int size = 50 - room;
                Twins.nothingChanges(check, "3 changes, FULL, " + n + " into " + room, x -> tellFilled(x, size),
                    x -> x.changes(0, 9, most, v), FULL);
            }
            WavePairs x = new WavePairs();
            tellFilled(x, 50 - n);
            check.due("3 changes that just fit", x.changes(0, 9, n, v), 50);
        }
        Call mask = (x, a) -> x.mask(a[0], a[1], a[2]);
        refused("9 mask, FULL", RefusalsTest::tellTenMasks, mask, new int[] {3, 29, 30}, FULL);
        refused("9 mask, FULL", RefusalsTest::tellTenMasks, mask, new int[] {11, 0, 4000}, FULL);
        Call maskWhile = (x, a) -> x.maskWhile(a[0], a[1], a[2]);
        refused("10 maskWhile, FULL", RefusalsTest::tellTenMasks, maskWhile, new int[] {3, 3, 60}, FULL);
        refused("10 maskWhile, FULL", RefusalsTest::tellTenMasks, maskWhile, new int[] {4, 9, 256}, FULL);
    }

    private static void ofSeveralTheFirst() {
        Call change = RefusalsTest::change;
        refused("2 BAD ahead of NO", World::tell, change, new int[] {0, 3, 49, 257}, BAD);
        refused("2 BAD ahead of NO", World::tell, change, new int[] {0, 3, -1, 1}, BAD);
        refused("2 BAD ahead of FULL", x -> tellFilled(x, 50), change, new int[] {0, 9, 4000, 1}, BAD);
        refused("2 BAD ahead of FULL", x -> tellFilled(x, 50), change, new int[] {0, 9, 50, 257}, BAD);
        refused("2 NO ahead of FULL", x -> tellFilled(x, 50), change, new int[] {0, 9, 49, 1}, NO);
        refused("2 NO ahead of FULL", x -> tellFilled(x, 50), change, new int[] {0, 9, 0, 1}, NO);
        refused("2 BAD ahead of both", x -> tellFilled(x, 50), change, new int[] {0, 9, 49, -1}, BAD);
        long[] bad = {Check.packed(1, 1, 1, 1, 1, 1, 0, 1), Check.packed(1, 1, 1, 1, 1, 1, 1, 257)};
        for (long v : bad) {
            for (int size = 47; size <= 50; size++) {
                int of = size;
                Twins.nothingChanges(check, "3 BAD ahead of FULL, at " + size, x -> tellFilled(x, of),
                    x -> x.changes(0, 9, 4, v), BAD);
            }
        }
        Twins.nothingChanges(check, "3 TICK 4000 ahead of FULL", RefusalsTest::tellFilledToTheEnd,
            x -> x.changes(0, 9, 1, Check.packed(1, 1)), BAD);
        Call mask = (x, a) -> x.mask(a[0], a[1], a[2]);
        refused("9 BAD ahead of FULL", RefusalsTest::tellTenMasks, mask, new int[] {3, 30, 30}, BAD);
        refused("9 BAD ahead of FULL", RefusalsTest::tellTenMasks, mask, new int[] {12, 29, 30}, BAD);
        Call maskWhile = (x, a) -> x.maskWhile(a[0], a[1], a[2]);
        refused("10 BAD ahead of FULL", RefusalsTest::tellTenMasks, maskWhile, new int[] {3, 12, 0}, BAD);
        refused("10 BAD ahead of FULL", RefusalsTest::tellTenMasks, maskWhile, new int[] {3, 3, 257}, BAD);
        Call act = (x, a) -> x.act(a[0], a[1], a[2], a[3]);
        refused("16 BAD ahead of NO", World::tell, act, new int[] {1, 2, 0, 0}, BAD);
        refused("16 BAD ahead of NO", World::tell, act, new int[] {1, 0, -2, 0}, BAD);
        refused("16 BAD ahead of NO", World::tell, act, new int[] {1, 0, 0, 2}, BAD);
        refused("16 BAD ahead of NONE", World::tell, act, new int[] {0, 0, 99, 2}, BAD);
        Twins.nothingChanges(check, "13 BAD ahead of NONE", World::tell, x -> x.difference(99, 3), BAD);
        Twins.nothingChanges(check, "22 BAD ahead of NONE", World::tell, x -> x.holds(0, 0, 1, 3, 50, 0, 99, 0), BAD);
    }

    /** A FULL row whose latest change is at TICK 3999. */
    private static void tellFilledToTheEnd(WavePairs x) {
        tellFilled(x, 49);
        x.change(0, 9, 3999, 1);
    }

    /** What is only asked changes nothing either, whether there is an answer or NONE. */
    private static void questionsChangeNothing() {
        int none = WavePairs.NONE;
        Twins.nothingChanges(check, "5 value", World::tell, x -> x.value(0, 3, 29), 60);
        Twins.nothingChanges(check, "12 differences", World::tell, WavePairs::differences, 10);
        Twins.nothingChanges(check, "13 difference", World::tell, x -> x.difference(9, 2), 199);
        Twins.nothingChanges(check, "13 difference, NONE", World::tell, x -> x.difference(10, 2), none);
        Twins.nothingChanges(check, "13 difference, NONE far off", World::tell, x -> x.difference(MAX, 0), none);
        Twins.nothingChanges(check, "14 first", World::tell, WavePairs::first, 29);
        Twins.nothingChanges(check, "16 act", World::tell, x -> x.act(0, 1, 0, 1), 61);
        Twins.nothingChanges(check, "16 act, NONE", World::tell, x -> x.act(0, 1, 2, 1), none);
        Twins.nothingChanges(check, "16 act, NONE far off", World::tell, x -> x.act(0, 1, MAX, 1), none);
        Twins.nothingChanges(check, "17 unlike", World::tell, x -> x.unlike(0), 0);
        Twins.nothingChanges(check, "17 unlike, NONE", World::tell, x -> x.unlike(3), none);
        Twins.nothingChanges(check, "18 fit", World::tell, x -> x.fit(2), 2);
        Twins.nothingChanges(check, "18 fit, NONE", World::tell, x -> x.fit(0), -1004);
        Twins.nothingChanges(check, "20 guilty", World::tell, x -> x.guilty(50), 7);
        Twins.nothingChanges(check, "20 guilty, NONE", World::tell, x -> x.guilty(49), none);
        Twins.nothingChanges(check, "21 alike", World::tell, x -> x.alike(9), 1 << 5 | 1 << 8 | 1 << 9);
        Twins.nothingChanges(check, "22 holds", World::tell, x -> x.holds(0, 0, 1, 3, 60, 1, -1, 0), 3);
        Twins.nothingChanges(check, "22 holds, NONE", World::tell, x -> x.holds(0, 0, 1, 3, 60, 1, 3, 0), none);
        Twins.nothingChanges(check, "23 window", World::tell, x -> x.window(0, 3, 0, World.END, 0), 3);
        Twins.nothingChanges(check, "24 count", World::tell, x -> x.count(0), 48);
    }
}
