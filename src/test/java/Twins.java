import java.util.Map;
import java.util.function.Consumer;
import java.util.function.ToIntFunction;

/** Two objects that are told the same; one of them is asked for more. Did that change anything? */
final class Twins {
    private Twins() {
    }

    /** The call answers what is due, twice, and the object is behind it as one that never heard of it. */
    static void nothingChanges(Check check, String what, Consumer<WavePairs> told, ToIntFunction<WavePairs> call,
            int due) {
        WavePairs plain = new WavePairs();
        WavePairs asked = new WavePairs();
        told.accept(plain);
        told.accept(asked);
        check.due(what, call.applyAsInt(asked), due);
        check.due(what + ", said again", call.applyAsInt(asked), due);
        Map<String, Integer> want = Look.at(plain);
        Map<String, Integer> got = Look.at(asked);
        for (String then : want.keySet()) {
            check.due(what + ", then " + then, got.get(then), want.get(then));
        }
    }
}
