import java.util.List;
import java.util.Set;
import java.util.TreeSet;
import java.util.function.Consumer;
import java.util.function.ToIntFunction;

/** One argument of a call: the values that it takes, and those next to them and far beyond. */
final class Edges {
    interface Ask {
        int of(BulbPapers x, int value);
    }

    private Edges() {
    }

    /**
     * The call, told with a * for the argument, takes from .. to and answers a refusal for others, by which
     * nothing changes. Each value is asked of an object made anew.
     */
    static void of(String call, Consumer<BulbPapers> made, Ask ask, int refusal, int from, int to) {
        for (int value : new TreeSet<>(List.of(from, to))) {
            BulbPapers x = new BulbPapers();
            made.accept(x);
            Check.due(named(call, value) + " is taken", ask.of(x, value) != refusal, true);
        }
        for (int value : beyond(from, to)) {
            refused(named(call, value), made, x -> ask.of(x, value), refusal);
        }
    }

    /** The call answers its refusal, and the object is then like one that was never asked. */
    static void refused(String run, Consumer<BulbPapers> made, ToIntFunction<BulbPapers> call, int refusal) {
        Looks.alike(run, x -> {
            made.accept(x);
            Check.due(run, call.applyAsInt(x), refusal);
        }, made);
    }

    private static String named(String call, int value) {
        return call.replace("*", Integer.toString(value));
    }

    /** The first on each side, the least and the greatest int, and those that wrap around to one that is taken. */
    private static Set<Integer> beyond(int from, int to) {
        Set<Integer> values = new TreeSet<>(List.of(Integer.MIN_VALUE, Integer.MAX_VALUE, from - 1, to + 1));
        for (int bits = 8; bits < 32; bits += 8) {
            values.add(from + (1 << bits));
            values.add(from - (1 << bits));
        }
        values.add(from ^ Integer.MIN_VALUE);
        values.add(-to - 1);
        values.removeIf(value -> value >= from && value <= to);
        return values;
    }
}
