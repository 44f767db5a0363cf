/** Promise 10, the edges of drop. */
public final class Promise10DropEdgesTest {
    public static void main(String[] args) {
        itWasNotThere();
        isThereNoMore();
        othersStay();
        Checks.end();
    }

    private static void itWasNotThere() {
        Checks.sentence("It was not there: REFUSED");
        for (int wrong : new int[] {-1, 8, 9, 10, Integer.MIN_VALUE, Integer.MAX_VALUE}) {
            Unchanged.by("drop(" + wrong + ")", x -> x.drop(wrong), -1);
        }
        Unchanged.by("drop(0) again", x -> x.drop(0), x -> x.drop(0), -1);
    }

    private static void isThereNoMore() {
        Checks.sentence("Filter 0 .. 9 is there no more");
        StreamFilters x = new StreamFilters();
        for (int filter = 0; filter < 10; filter++) {
            x.read(filter, true);
        }
        for (int filter = 0; filter < 10; filter++) {
            Checks.due("drop(" + filter + ")", x.drop(filter), 0);
            Checks.due("filter(" + filter + ", 0)", x.filter(filter, 0), 0);
            for (int what = 1; what < 9; what++) {
                Checks.due("filter(" + filter + ", " + what + ")", x.filter(filter, what), -1);
            }
            Checks.due("ask(" + filter + ")", x.ask(filter, 0, 0, 0), -1);
            Checks.due("strict over " + filter, x.strict(filter, filter, true), -1);
            for (int other = filter + 1; other < 10; other++) {
                Checks.due("filter(" + other + ", 0)", x.filter(other, 0), 1);
            }
        }
        Checks.due("read in a place that was left", x.read(3, true), 0);
        Checks.due("drop of it", x.drop(3), 0);
    }

    private static void othersStay() {
        Checks.sentence("others that were made of it stay");
        StreamFilters x = new StreamFilters();
        Checks.make(x, 0, "a", false);
        x.join(1, 0, 0);
        x.strict(2, 0, false);
        x.otherwise(3, 0, 2);
        x.only(4, 0);
        x.join(5, 1, 2);
        Checks.due("drop(0)", x.drop(0), 0);
        Checks.due("drop(1)", x.drop(1), 0);
        Checks.put(x, Checks.NAME, "a");
        for (int filter = 2; filter < 6; filter++) {
            Checks.due("ask(" + filter + ")", x.ask(filter, 1, 0, 0), 1);
        }
        Checks.due("LEAVES", x.filter(5, 1), 3);
        Checks.due("HIGH", x.filter(5, 2), 3);
        Checks.due("the trace of the latest ask stays", x.trace(1), 3);
        x.drop(5);
        Checks.due("the trace of the latest ask stays", x.trace(1), 3);
    }
}
