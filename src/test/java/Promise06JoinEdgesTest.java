import java.util.function.Consumer;

/** Promise 6, the edges of join. */
public final class Promise06JoinEdgesTest {
    public static void main(String[] args) {
        filtersMustBeThere();
        leavesUpToTwentyFour();
        leavesOfOthers();
        highUpToEight();
        highOfOthers();
        numbersAreTestedBeforeTheRoom();
        madeOfOthersAsTheyWere();
        rejectsWithoutAskingTheOther();
        Checks.end();
    }

    private static void filtersMustBeThere() {
        Checks.sentence("a filter that is not there is out of range where one is asked");
        for (int wrong : new int[] {-1, 10, Integer.MIN_VALUE, Integer.MAX_VALUE}) {
            Unchanged.by("join(" + wrong + ", 0, 1)", x -> x.join(wrong, 0, 1), -1);
            Unchanged.by("join(8, " + wrong + ", 1)", x -> x.join(8, wrong, 1), -1);
            Unchanged.by("join(8, 0, " + wrong + ")", x -> x.join(8, 0, wrong), -1);
        }
        Unchanged.by("join(8, 9, 0)", x -> x.join(8, 9, 0), -1);
        Unchanged.by("join(8, 0, 9)", x -> x.join(8, 0, 9), -1);
        Unchanged.by("join(8, 8, 8)", x -> x.join(8, 8, 8), -1);
        Unchanged.by("join(0, 8, 1)", x -> x.join(0, 8, 1), -1);
        StreamFilters x = new StreamFilters();
        x.read(0, false);
        for (int to = 9; to >= 0; to--) {
            Checks.due("join(" + to + ", 0, 0)", x.join(to, 0, 0), 0);
            Checks.due("filter(" + to + ", 0)", x.filter(to, 0), 2);
        }
    }

    /** Filters 0 to 4 have 1, 2, 3, 8 and 16 LEAVES. */
    private static void makeLeaves(StreamFilters x) {
        Checks.make(x, 0, "a", false);
        x.join(1, 0, 0);
        x.join(2, 1, 0);
        x.join(3, 1, 1);
        x.join(3, 3, 3);
        x.join(4, 3, 3);
    }

    private static void leavesUpToTwentyFour() {
        Checks.sentence("It would have more than 24 LEAVES: FULL");
        StreamFilters x = new StreamFilters();
        makeLeaves(x);
        Checks.due("16 and 8", x.join(5, 4, 3), 0);
        Checks.due("16 and 8", x.filter(5, 1), 24);
        Checks.due("8 and 16", x.join(6, 3, 4), 0);
        Checks.due("8 and 16", x.filter(6, 1), 24);
        Checks.due("all are asked", Checks.askClass(x, 6, "a"), 1);
        Checks.due("all are asked", x.trace(1), 24);
        Consumer<StreamFilters> full = y -> {
            makeLeaves(y);
            y.join(5, 4, 3);
        };
        Unchanged.by("24 and 1", full, y -> y.join(9, 5, 0), -3);
        Unchanged.by("1 and 24", full, y -> y.join(9, 0, 5), -3);
        Unchanged.by("24 and 24", full, y -> y.join(9, 5, 5), -3);
        Unchanged.by("24 and 1 in its own place", full, y -> y.join(5, 5, 0), -3);
        Unchanged.by("16 and 16", full, y -> y.join(0, 4, 4), -3);
        Unchanged.by("25", y -> {
            makeLeaves(y);
            y.join(6, 3, 0);
        }, y -> y.join(9, 4, 6), -3);
    }

    private static void leavesOfOthers() {
        Checks.sentence("a TEXT FILTER has 1, a JOINED one those of both, others those of theirs");
        StreamFilters x = new StreamFilters();
        Checks.make(x, 0, "a;b;maxdepth=3", false);
        Checks.due("TEXT", x.filter(0, 1), 1);
        makeLeaves(x);
        x.join(5, 4, 2);
        Checks.due("JOINED of 16 and 3", x.filter(5, 1), 19);
        x.strict(6, 2, true);
        Checks.due("STRICT over 3", x.filter(6, 1), 3);
        x.otherwise(7, 6, 0);
        Checks.due("WITH DEFAULT over 3", x.filter(7, 1), 3);
        x.only(8, 7);
        Checks.due("ONLY over 3", x.filter(8, 1), 3);
        Checks.due("19 and 3", x.join(9, 5, 8), 0);
        Checks.due("19 and 3", x.filter(9, 1), 22);
        Checks.due("22 and 3", x.join(9, 9, 8), -3);
        Checks.due("22 and 2", x.join(9, 9, 1), 0);
        Checks.due("24", x.filter(9, 1), 24);
    }

    /** Filter 0 is 1 HIGH, filter 1 as HIGH as is said. */
    private static void makeHigh(StreamFilters x, int high) {
        Checks.make(x, 0, "a", false);
        Checks.make(x, 1, "a", false);
        for (int now = 1; now < high; now++) {
            x.strict(1, 1, false);
        }
    }

    private static void highUpToEight() {
        Checks.sentence("Or it would be more than 8 HIGH: FULL");
        for (int high = 1; high < 8; high++) {
            StreamFilters x = new StreamFilters();
            makeHigh(x, high);
            Checks.due("the higher one first", x.join(2, 1, 0), 0);
            Checks.due("its HIGH", x.filter(2, 2), high + 1);
            Checks.due("the higher one last", x.join(3, 0, 1), 0);
            Checks.due("its HIGH", x.filter(3, 2), high + 1);
            Checks.due("both", x.join(4, 1, 1), 0);
            Checks.due("their HIGH", x.filter(4, 2), high + 1);
            Checks.due("it answers", Checks.askClass(x, 4, "a"), 1);
        }
        Consumer<StreamFilters> eight = x -> makeHigh(x, 8);
        Unchanged.by("8 HIGH and 1 HIGH", eight, x -> x.join(9, 1, 0), -3);
        Unchanged.by("1 HIGH and 8 HIGH", eight, x -> x.join(9, 0, 1), -3);
        Unchanged.by("8 HIGH and 8 HIGH", eight, x -> x.join(9, 1, 1), -3);
        Unchanged.by("8 HIGH in its own place", eight, x -> x.join(1, 1, 0), -3);
    }

    private static void highOfOthers() {
        Checks.sentence("a TEXT FILTER 1, others 1 more than the highest of theirs");
        StreamFilters x = new StreamFilters();
        x.read(0, false);
        Checks.due("TEXT", x.filter(0, 2), 1);
        x.strict(1, 0, true);
        Checks.due("STRICT over 1", x.filter(1, 2), 2);
        x.otherwise(2, 1, 0);
        Checks.due("WITH DEFAULT over 2", x.filter(2, 2), 3);
        x.only(3, 2);
        Checks.due("ONLY over 3", x.filter(3, 2), 4);
        x.join(4, 3, 1);
        Checks.due("JOINED of 4 and 2", x.filter(4, 2), 5);
        x.join(5, 0, 4);
        Checks.due("JOINED of 1 and 5", x.filter(5, 2), 6);
        x.join(6, 5, 5);
        Checks.due("JOINED of 6 and 6", x.filter(6, 2), 7);
        x.strict(7, 6, true);
        Checks.due("STRICT over 7", x.filter(7, 2), 8);
        Checks.due("STRICT over 8", x.strict(8, 7, true), -3);
        Checks.due("WITH DEFAULT over 8", x.otherwise(8, 7, 1), -3);
        Checks.due("ONLY over 8", x.only(8, 7), -3);
        Checks.due("JOINED of 8 and 1", x.join(8, 7, 0), -3);
        Checks.due("nothing was made", x.filter(8, 0), 0);
    }

    private static void numbersAreTestedBeforeTheRoom() {
        Checks.sentence("Every call tests its numbers first .. then what its comment says");
        Consumer<StreamFilters> eight = x -> makeHigh(x, 8);
        Unchanged.by("join(10) of 9 HIGH", eight, x -> x.join(10, 1, 1), -1);
        Unchanged.by("join(-1) of 9 HIGH", eight, x -> x.join(-1, 1, 1), -1);
        Unchanged.by("join of 8 HIGH and none", eight, x -> x.join(2, 1, 9), -1);
        Unchanged.by("join of none and 8 HIGH", eight, x -> x.join(2, 9, 1), -1);
    }

    private static void madeOfOthersAsTheyWere() {
        Checks.sentence("each made of a text, or of others as they were when it was made");
        StreamFilters x = new StreamFilters();
        Checks.make(x, 0, "a", false);
        Checks.make(x, 1, "!b", false);
        Checks.due("in the place of the one", x.join(0, 0, 1), 0);
        Checks.due("in the place of the other", x.join(1, 0, 1), 0);
        Checks.due("of itself twice", x.join(0, 0, 0), 0);
        Checks.due("LEAVES of 0", x.filter(0, 1), 4);
        Checks.due("LEAVES of 1", x.filter(1, 1), 3);
        Checks.make(x, 2, "c", false);
        x.join(3, 2, 1);
        Checks.make(x, 2, "!c", false);
        x.drop(1);
        Checks.due("c is as it was", Checks.askClass(x, 3, "c"), 1);
        Checks.due("a is as it was", Checks.askClass(x, 3, "a"), 1);
        Checks.due("b is as it was", Checks.askClass(x, 3, "b"), 2);
    }

    private static void rejectsWithoutAskingTheOther() {
        Checks.sentence("a REJECTS: REJECTED (b is not asked); else b REJECTS: REJECTED; else ALLOWED if one ALLOWS; else UNDECIDED");
        for (int a = 0; a < 3; a++) {
            for (int b = 0; b < 3; b++) {
                StreamFilters x = new StreamFilters();
                Checks.make(x, 0, "x", false);
                x.otherwise(1, 0, a);
                x.otherwise(2, 0, b);
                x.join(3, 1, 2);
                int due = a == 2 || b == 2 ? 2 : a == 1 || b == 1 ? 1 : 0;
                for (int sort = 0; sort < 3; sort++) {
                    Checks.due(a + " and " + b, x.ask(3, sort, sort / 2, 0), due);
                    Checks.due("TEXT FILTERS asked", x.trace(1), a == 2 ? 1 : 2);
                }
            }
        }
    }
}
