import java.util.List;
import java.util.function.Supplier;
import java.util.function.ToLongFunction;

/** What the tests of bounds share: numbers on both sides of a bound, and calls that are refused. */
final class Bounds {
    interface Call {
        long on(SpireLean x, int v);
    }

    private static final List<Supplier<SpireLean>> ALL =
            List.of(States::fresh, States::some, States::full, States::old);

    private Bounds() {
    }

    /** The last number that is taken and the first that is refused, on both sides, each by a new object. */
    static void of(String name, Supplier<SpireLean> made, Call call, int least, long atLeast, int most, long atMost) {
        Due.due(name + " by " + least, call.on(made.get(), least), atLeast);
        Due.due(name + " by " + most, call.on(made.get(), most), atMost);
        outside(name, made, call, least, most);
    }

    /** BAD below and above, whatever else fits. */
    static void outside(String name, Supplier<SpireLean> made, Call call, int least, int most) {
        for (int v : new int[] {least - 1, Integer.MIN_VALUE, most + 1, Integer.MAX_VALUE}) {
            refused(name + " by " + v, made, x -> call.on(x, v), Due.BAD);
        }
    }

    /** BAD below and above in a new object, in one that has some, in one that is full and in one that is old. */
    static void outsideInAll(String name, Call call, int least, int most) {
        for (Supplier<SpireLean> made : ALL) {
            outside(name, made, call, least, most);
        }
    }

    /** It is refused by that answer, and all else answers as it would have without it. */
    static void refused(String name, Supplier<SpireLean> made, ToLongFunction<SpireLean> call, long answer) {
        SpireLean x = made.get();
        Due.due(name, call.applyAsLong(x), answer);
        String untouched = Look.through(made.get());
        String after = Look.through(x);
        Due.due(name + " changes nothing:\n" + after + "\nis not" + untouched, after.equals(untouched) ? 1 : 0, 1);
    }
}
