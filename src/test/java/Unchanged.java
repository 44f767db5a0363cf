import java.util.ArrayList;
import java.util.List;
import java.util.function.Consumer;
import java.util.function.ToIntFunction;

/**
 * Whether a call changes nothing: of two objects with the same past, one with the call and one without, all that can
 * be seen is compared.
 */
final class Unchanged {
    private Unchanged() {
    }

    /** A past with all kinds of filters, with counts that stand just at and just above limits, and with a trace. */
    private static void past(StreamFilters x) {
        Checks.make(x, 0, "maxdepth=5;maxrefs=6;maxbytes=7;maxarray=8;!m/b;a", true);
        Checks.make(x, 1, "maxdepth=4;*", false);
        Checks.make(x, 2, "maxrefs=5;*", false);
        Checks.make(x, 3, "maxbytes=6;*", false);
        x.join(4, 0, 1);
        x.strict(5, 0, true);
        x.otherwise(6, 0, StreamFilters.ALLOWED);
        Checks.put(x, Checks.PATTERN, "b");
        x.only(7, 0);
        Checks.put(x, Checks.PATTERN, "c;!d.*");
        Checks.put(x, Checks.NAME, "a");
        Checks.put(x, Checks.MODULE, "m");
        x.stream(5, 6, 7);
        x.ask(0, 1, 0, 0);
    }

    static void by(String call, ToIntFunction<StreamFilters> made, int due) {
        by(call, x -> { }, made, due);
    }

    /** What comes behind the past of all may be some hundred calls. */
    static void by(String call, Consumer<StreamFilters> behind, ToIntFunction<StreamFilters> made, int due) {
        Consumer<StreamFilters> past = x -> {
            past(x);
            behind.accept(x);
        };
        same(call, past, made, due, Unchanged::seeBuffersAndTrace);
        same(call, past, made, due, Unchanged::seeFilters);
        same(call, past, made, due, Unchanged::askAll);
        same(call, past, made, due, Unchanged::askAllByAnotherName);
    }

    private interface Look {
        void at(StreamFilters x, List<Integer> seen);
    }

    /** New objects for each look: all looks together are more than the calls that an object is used for. */
    private static void same(String call, Consumer<StreamFilters> past, ToIntFunction<StreamFilters> made, int due,
            Look look) {
        StreamFilters with = new StreamFilters();
        StreamFilters without = new StreamFilters();
        past.accept(with);
        past.accept(without);
        Checks.due(call, made.applyAsInt(with), due);
        List<Integer> seenWith = new ArrayList<>();
        List<Integer> seenWithout = new ArrayList<>();
        look.at(with, seenWith);
        look.at(without, seenWithout);
        Checks.due(call + " has changed something, and that", seenWith.equals(seenWithout) ? 0 : 1, 0);
    }

    private static void seeTrace(StreamFilters x, List<Integer> seen) {
        for (int what = 0; what < 3; what++) {
            seen.add(x.trace(what));
        }
    }

    private static void seeBuffersAndTrace(StreamFilters x, List<Integer> seen) {
        seeTrace(x, seen);
        seen.add(x.fault());
        for (int buffer = 0; buffer < 3; buffer++) {
            for (int i = 0; i < Checks.mostSigns(buffer); i++) {
                seen.add(x.sign(buffer, i));
            }
            seen.add(x.clear(buffer));
        }
    }

    private static void seeFilters(StreamFilters x, List<Integer> seen) {
        for (int filter = 0; filter < 10; filter++) {
            for (int what = 0; what < 9; what++) {
                seen.add(x.filter(filter, what));
            }
            for (int k = 0; k < 3; k++) {
                seen.add(x.pattern(filter, k, false));
                seen.add(x.pattern(filter, k, true));
            }
        }
    }

    private static void askAll(StreamFilters x, List<Integer> seen) {
        for (int filter = 0; filter < 10; filter++) {
            ask(x, seen, filter, 0, 0, 0);
            ask(x, seen, filter, 1, 0, 0);
            ask(x, seen, filter, 1, 1, 8);
            ask(x, seen, filter, 2, 1, 9);
        }
    }

    private static void askAllByAnotherName(StreamFilters x, List<Integer> seen) {
        Checks.put(x, Checks.NAME, "b");
        askAll(x, seen);
    }

    private static void ask(StreamFilters x, List<Integer> seen, int filter, int sort, int dimensions, int length) {
        seen.add(x.ask(filter, sort, dimensions, length));
        seeTrace(x, seen);
    }
}
