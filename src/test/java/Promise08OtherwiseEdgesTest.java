import java.util.function.Consumer;

/** Promise 8, the edges of otherwise. */
public final class Promise08OtherwiseEdgesTest {
    public static void main(String[] args) {
        filtersMustBeThere();
        answersAreThree();
        fullAsAbove();
        numbersAreTestedBeforeTheRoom();
        givesItsAnswerForUndecided();
        madeOfOthersAsTheyWere();
        Checks.end();
    }

    private static void filtersMustBeThere() {
        Checks.sentence("Numbers out of range answer REFUSED and change nothing");
        for (int wrong : new int[] {-1, 10, Integer.MIN_VALUE, Integer.MAX_VALUE}) {
            Unchanged.by("otherwise(" + wrong + ", 0, 1)", x -> x.otherwise(wrong, 0, 1), -1);
            Unchanged.by("otherwise(8, " + wrong + ", 1)", x -> x.otherwise(8, wrong, 1), -1);
        }
        Unchanged.by("otherwise(8, 9, 1)", x -> x.otherwise(8, 9, 1), -1);
        Unchanged.by("otherwise(0, 9, 1)", x -> x.otherwise(0, 9, 1), -1);
        Unchanged.by("otherwise(9, 9, 1)", x -> x.otherwise(9, 9, 1), -1);
        StreamFilters x = new StreamFilters();
        x.read(5, false);
        for (int to : new int[] {0, 9}) {
            Checks.due("otherwise(" + to + ", 5, 1)", x.otherwise(to, 5, 1), 0);
            Checks.due("filter(" + to + ", 0)", x.filter(to, 0), 4);
        }
    }

    private static void answersAreThree() {
        Checks.sentence("the given answer being 0 .. 2");
        for (int answer : new int[] {-3, -2, -1, 3, Integer.MIN_VALUE, Integer.MAX_VALUE}) {
            Unchanged.by("otherwise(8, 0, " + answer + ")", x -> x.otherwise(8, 0, answer), -1);
            Unchanged.by("otherwise(0, 0, " + answer + ")", x -> x.otherwise(0, 0, answer), -1);
        }
        StreamFilters x = new StreamFilters();
        x.read(0, false);
        for (int answer = 0; answer < 3; answer++) {
            Checks.due("otherwise(1, 0, " + answer + ")", x.otherwise(1, 0, answer), 0);
            Checks.due("it answers", x.ask(1, 0, 0, 0), answer);
        }
    }

    private static void makeEight(StreamFilters x) {
        Checks.make(x, 0, "a", false);
        for (int high = 2; high <= 8; high++) {
            x.otherwise(0, 0, 0);
        }
    }

    private static void fullAsAbove() {
        Checks.sentence("FULL as above");
        StreamFilters x = new StreamFilters();
        Checks.make(x, 0, "a", false);
        for (int high = 2; high <= 8; high++) {
            Checks.due("otherwise to " + high + " HIGH", x.otherwise(0, 0, 0), 0);
            Checks.due("its HIGH", x.filter(0, 2), high);
        }
        Checks.due("8 HIGH answers", Checks.askClass(x, 0, "a"), 1);
        Consumer<StreamFilters> eight = Promise08OtherwiseEdgesTest::makeEight;
        Unchanged.by("9 HIGH in a free place", eight, y -> y.otherwise(9, 0, 2), -3);
        Unchanged.by("9 HIGH in a held place", eight, y -> y.otherwise(1, 0, 2), -3);
        Unchanged.by("9 HIGH in its own place", eight, y -> y.otherwise(0, 0, 2), -3);
        StreamFilters leaves = new StreamFilters();
        Checks.makeTwentyFourLeaves(leaves, 0);
        Checks.due("24 LEAVES are not too many", leaves.otherwise(1, 0, 2), 0);
        Checks.due("its LEAVES", leaves.filter(1, 1), 24);
    }

    private static void numbersAreTestedBeforeTheRoom() {
        Checks.sentence("Every call tests its numbers first .. then what its comment says");
        Consumer<StreamFilters> eight = Promise08OtherwiseEdgesTest::makeEight;
        Unchanged.by("otherwise(10) of 9 HIGH", eight, x -> x.otherwise(10, 0, 1), -1);
        Unchanged.by("otherwise(-1) of 9 HIGH", eight, x -> x.otherwise(-1, 0, 1), -1);
        Unchanged.by("answer 3 of 9 HIGH", eight, x -> x.otherwise(1, 0, 3), -1);
        Unchanged.by("answer -1 of 9 HIGH", eight, x -> x.otherwise(1, 0, -1), -1);
    }

    private static void givesItsAnswerForUndecided() {
        Checks.sentence("what a answers, but a given answer for UNDECIDED");
        for (int a = 0; a < 3; a++) {
            for (int given = 0; given < 3; given++) {
                StreamFilters x = new StreamFilters();
                x.read(0, true);
                x.otherwise(1, 0, a);
                x.otherwise(2, 1, given);
                int due = a == 0 ? given : a;
                Checks.due("SORT 0, " + a + " else " + given, x.ask(2, 0, 0, 0), due);
                Checks.due("SORT 1, " + a + " else " + given, x.ask(2, 1, 0, 0), due);
                Checks.due("SORT 1, an array, " + a + " else " + given, x.ask(2, 1, 3, 0), due);
                Checks.due("SORT 2, " + a + " else " + given, x.ask(2, 2, 1, 0), due);
                Checks.due("a was asked", x.trace(1), 1);
            }
        }
    }

    private static void madeOfOthersAsTheyWere() {
        Checks.sentence("each made of a text, or of others as they were when it was made");
        StreamFilters x = new StreamFilters();
        Checks.make(x, 0, "a", false);
        x.otherwise(1, 0, 2);
        Checks.due("in its own place", x.otherwise(0, 0, 1), 0);
        Checks.make(x, 0, "!a;*", false);
        Checks.due("a is as it was", Checks.askClass(x, 1, "a"), 1);
        x.drop(0);
        Checks.due("b is as it was", Checks.askClass(x, 1, "b"), 2);
    }
}
