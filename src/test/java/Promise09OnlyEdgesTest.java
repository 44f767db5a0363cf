import java.util.function.Consumer;

/** Promise 9, the edges of only. */
public final class Promise09OnlyEdgesTest {
    public static void main(String[] args) {
        filtersMustBeThere();
        fullAsAbove();
        numbersAreTestedBeforeTheRoom();
        namesThatBeginSo();
        anyNameBeginsWithNothing();
        longBeginnings();
        patternNeedsNoSense();
        thePatternOfThen();
        theSortIsOne();
        madeOfOthersAsTheyWere();
        Checks.end();
    }

    private static void filtersMustBeThere() {
        Checks.sentence("Numbers out of range answer REFUSED and change nothing");
        for (int wrong : new int[] {-1, 10, Integer.MIN_VALUE, Integer.MAX_VALUE}) {
            Unchanged.by("only(" + wrong + ", 0)", x -> x.only(wrong, 0), -1);
            Unchanged.by("only(8, " + wrong + ")", x -> x.only(8, wrong), -1);
        }
        Unchanged.by("only(8, 9)", x -> x.only(8, 9), -1);
        Unchanged.by("only(0, 9)", x -> x.only(0, 9), -1);
        Unchanged.by("only(9, 9)", x -> x.only(9, 9), -1);
        StreamFilters x = new StreamFilters();
        x.read(5, false);
        for (int to : new int[] {0, 9}) {
            Checks.due("only(" + to + ", 5)", x.only(to, 5), 0);
            Checks.due("filter(" + to + ", 0)", x.filter(to, 0), 5);
        }
    }

    private static void makeEight(StreamFilters x) {
        Checks.make(x, 0, "a", false);
        for (int high = 2; high <= 8; high++) {
            x.only(0, 0);
        }
    }

    private static void fullAsAbove() {
        Checks.sentence("FULL as above");
        StreamFilters x = new StreamFilters();
        Checks.make(x, 0, "a", false);
        for (int high = 2; high <= 8; high++) {
            Checks.due("only to " + high + " HIGH", x.only(0, 0), 0);
            Checks.due("its HIGH", x.filter(0, 2), high);
        }
        Checks.due("8 HIGH answers", Checks.askClass(x, 0, "a"), 1);
        Consumer<StreamFilters> eight = Promise09OnlyEdgesTest::makeEight;
        Unchanged.by("9 HIGH in a free place", eight, y -> y.only(9, 0), -3);
        Unchanged.by("9 HIGH in a held place", eight, y -> y.only(1, 0), -3);
        Unchanged.by("9 HIGH in its own place", eight, y -> y.only(0, 0), -3);
        StreamFilters leaves = new StreamFilters();
        Checks.makeTwentyFourLeaves(leaves, 0);
        Checks.due("24 LEAVES are not too many", leaves.only(1, 0), 0);
        Checks.due("its LEAVES", leaves.filter(1, 1), 24);
    }

    private static void numbersAreTestedBeforeTheRoom() {
        Checks.sentence("Every call tests its numbers first .. then what its comment says");
        Consumer<StreamFilters> eight = Promise09OnlyEdgesTest::makeEight;
        Unchanged.by("only(10) of 9 HIGH", eight, x -> x.only(10, 0), -1);
        Unchanged.by("only(-1) of 9 HIGH", eight, x -> x.only(-1, 0), -1);
    }

    /** Filter 1 is ONLY of the beginning, over a filter that rejects every class. */
    private static StreamFilters onlyOf(String beginning) {
        StreamFilters x = new StreamFilters();
        Checks.make(x, 0, "!*", true);
        Checks.put(x, Checks.PATTERN, beginning);
        Checks.due("only of '" + beginning + "'", x.only(1, 0), 0);
        return x;
    }

    private static void asks(StreamFilters x, String name, boolean begins) {
        Checks.due("ask of '" + name + "'", Checks.askClass(x, 1, name), begins ? 2 : 0);
        Checks.due("TEXT FILTERS asked for '" + name + "'", x.trace(1), begins ? 1 : 0);
    }

    private static void namesThatBeginSo() {
        Checks.sentence("what a answers if the NAME of now begins with the signs .. else UNDECIDED (a is not asked)");
        StreamFilters x = onlyOf("ab.");
        asks(x, "ab.", true);
        asks(x, "ab.c", true);
        asks(x, "ab", false);
        asks(x, "", false);
        asks(x, "ab,", false);
        asks(x, "bb.", false);
        asks(x, "aab.", false);
        asks(x, "AB.", false);
    }

    private static void anyNameBeginsWithNothing() {
        Checks.sentence("begins with the signs that PATTERN held");
        StreamFilters x = onlyOf("");
        asks(x, "", true);
        asks(x, "a", true);
        asks(x, "a".repeat(40), true);
        Checks.due("SORT 0", x.ask(1, 0, 0, 0), 0);
        Checks.due("a is not asked", x.trace(1), 0);
    }

    private static void longBeginnings() {
        Checks.sentence("begins with the signs that PATTERN held");
        asks(onlyOf("a".repeat(39)), "a".repeat(40), true);
        asks(onlyOf("a".repeat(40)), "a".repeat(40), true);
        asks(onlyOf("a".repeat(40)), "a".repeat(39), false);
        asks(onlyOf("a".repeat(39) + "b"), "a".repeat(40), false);
        asks(onlyOf("a".repeat(41)), "a".repeat(40), false);
        asks(onlyOf("a".repeat(90)), "a".repeat(40), false);
    }

    private static void patternNeedsNoSense() {
        Checks.sentence("the signs that PATTERN held when it was made");
        for (String bad : new String[] {"!", "=", "/", ".*", ".**", "maxdepth=", ";"}) {
            StreamFilters x = onlyOf(bad);
            asks(x, bad, true);
            asks(x, bad + "a", true);
            asks(x, "a" + bad, false);
        }
        StreamFilters star = onlyOf("a*");
        asks(star, "a*", true);
        asks(star, "ab", false);
        StreamFilters two = onlyOf("a;b");
        asks(two, "a;b", true);
        asks(two, "a", false);
        asks(two, "b", false);
    }

    private static void thePatternOfThen() {
        Checks.sentence("the signs that PATTERN held when it was made");
        StreamFilters x = onlyOf("ab");
        x.type(0, 'c');
        asks(x, "ab", true);
        x.clear(0);
        asks(x, "ac", false);
        Checks.put(x, Checks.PATTERN, "xy");
        asks(x, "ab", true);
        asks(x, "xy", false);
    }

    private static void theSortIsOne() {
        Checks.sentence("and SORT is 1, else UNDECIDED (a is not asked)");
        StreamFilters x = new StreamFilters();
        Checks.make(x, 0, "", false);
        x.otherwise(0, 0, 2);
        Checks.put(x, Checks.PATTERN, "a");
        x.only(1, 0);
        Checks.put(x, Checks.NAME, "a");
        for (int dimensions = 0; dimensions < 4; dimensions++) {
            Checks.due("SORT 1", x.ask(1, 1, dimensions, 0), 2);
            Checks.due("a is asked", x.trace(1), 1);
        }
        for (int dimensions = 1; dimensions < 4; dimensions++) {
            Checks.due("SORT 2", x.ask(1, 2, dimensions, 0), 0);
            Checks.due("a is not asked", x.trace(1), 0);
        }
        Checks.due("SORT 0", x.ask(1, 0, 0, 0), 0);
        Checks.due("a is not asked", x.trace(1), 0);
    }

    private static void madeOfOthersAsTheyWere() {
        Checks.sentence("each made of a text, or of others as they were when it was made");
        StreamFilters x = new StreamFilters();
        Checks.make(x, 0, "a", false);
        x.only(1, 0);
        Checks.due("in its own place", x.only(0, 0), 0);
        Checks.make(x, 0, "!a", false);
        Checks.due("a is as it was", Checks.askClass(x, 1, "a"), 1);
        x.drop(0);
        Checks.due("a is as it was", x.ask(1, 1, 0, 0), 1);
    }
}
