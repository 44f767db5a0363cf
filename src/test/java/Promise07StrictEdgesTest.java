import java.util.function.Consumer;

/** Promise 7, the edges of strict. */
public final class Promise07StrictEdgesTest {
    public static void main(String[] args) {
        filtersMustBeThere();
        fullAsAbove();
        numbersAreTestedBeforeTheRoom();
        rejectsForUndecided();
        countsAllOrNot();
        madeOfOthersAsTheyWere();
        Checks.end();
    }

    private static void filtersMustBeThere() {
        Checks.sentence("Numbers out of range answer REFUSED and change nothing");
        for (int wrong : new int[] {-1, 10, Integer.MIN_VALUE, Integer.MAX_VALUE}) {
            Unchanged.by("strict(" + wrong + ", 0)", x -> x.strict(wrong, 0, true), -1);
            Unchanged.by("strict(8, " + wrong + ")", x -> x.strict(8, wrong, true), -1);
        }
        Unchanged.by("strict(8, 9)", x -> x.strict(8, 9, false), -1);
        Unchanged.by("strict(0, 9)", x -> x.strict(0, 9, false), -1);
        Unchanged.by("strict(9, 9)", x -> x.strict(9, 9, false), -1);
        StreamFilters x = new StreamFilters();
        x.read(5, false);
        for (int to : new int[] {0, 9}) {
            Checks.due("strict(" + to + ", 5)", x.strict(to, 5, false), 0);
            Checks.due("filter(" + to + ", 0)", x.filter(to, 0), 3);
        }
    }

    private static void fullAsAbove() {
        Checks.sentence("FULL as above");
        StreamFilters x = new StreamFilters();
        Checks.make(x, 0, "a", false);
        for (int high = 2; high <= 8; high++) {
            Checks.due("strict to " + high + " HIGH", x.strict(0, 0, true), 0);
            Checks.due("its HIGH", x.filter(0, 2), high);
        }
        Checks.due("8 HIGH answers", Checks.askClass(x, 0, "a"), 1);
        Consumer<StreamFilters> eight = Promise07StrictEdgesTest::makeEight;
        Unchanged.by("9 HIGH in a free place", eight, y -> y.strict(9, 0, true), -3);
        Unchanged.by("9 HIGH in a held place", eight, y -> y.strict(1, 0, true), -3);
        Unchanged.by("9 HIGH in its own place", eight, y -> y.strict(0, 0, true), -3);
        StreamFilters leaves = new StreamFilters();
        Checks.makeTwentyFourLeaves(leaves, 0);
        Checks.due("24 LEAVES are not too many", leaves.strict(1, 0, true), 0);
        Checks.due("its LEAVES", leaves.filter(1, 1), 24);
    }

    private static void makeEight(StreamFilters x) {
        Checks.make(x, 0, "a", false);
        for (int high = 2; high <= 8; high++) {
            x.strict(0, 0, false);
        }
    }

    private static void numbersAreTestedBeforeTheRoom() {
        Checks.sentence("Every call tests its numbers first .. then what its comment says");
        Consumer<StreamFilters> eight = Promise07StrictEdgesTest::makeEight;
        Unchanged.by("strict(10) of 9 HIGH", eight, x -> x.strict(10, 0, true), -1);
        Unchanged.by("strict(-1) of 9 HIGH", eight, x -> x.strict(-1, 0, true), -1);
    }

    private static void rejectsForUndecided() {
        Checks.sentence("what a answers, but REJECTED for UNDECIDED with SORT 1");
        for (boolean all : new boolean[] {false, true}) {
            for (int a = 0; a < 3; a++) {
                StreamFilters x = new StreamFilters();
                x.read(0, true);
                x.otherwise(1, 0, a);
                x.strict(2, 1, all);
                for (int dimensions = 0; dimensions < 4; dimensions++) {
                    Checks.due("SORT 1 over " + a, x.ask(2, 1, dimensions, 0), a == 0 ? 2 : a);
                }
                for (int dimensions = 1; dimensions < 4; dimensions++) {
                    Checks.due("SORT 2 over " + a, x.ask(2, 2, dimensions, 0), a);
                }
                Checks.due("a was asked", x.trace(1), 1);
            }
        }
    }

    private static void countsAllOrNot() {
        Checks.sentence("and also with SORT 0 if it counts all");
        for (int a = 0; a < 3; a++) {
            StreamFilters x = new StreamFilters();
            x.read(0, true);
            x.otherwise(1, 0, a);
            x.strict(2, 1, true);
            x.strict(3, 1, false);
            Checks.due("it counts all, over " + a, x.ask(2, 0, 0, 0), a == 0 ? 2 : a);
            Checks.due("it does not, over " + a, x.ask(3, 0, 0, 0), a);
        }
    }

    private static void madeOfOthersAsTheyWere() {
        Checks.sentence("each made of a text, or of others as they were when it was made");
        StreamFilters x = new StreamFilters();
        Checks.make(x, 0, "a", false);
        x.strict(1, 0, false);
        Checks.due("in its own place", x.strict(0, 0, false), 0);
        Checks.make(x, 0, "!a;*", false);
        Checks.due("a is as it was", Checks.askClass(x, 1, "a"), 1);
        x.drop(0);
        Checks.due("b is as it was", Checks.askClass(x, 1, "b"), 2);
    }
}
