/** Promise 8. */
public final class Promise08OtherwiseTest {
    public static void main(String[] args) {
        for (int given = 0; given < 3; given++) {
            answers(given);
        }
        keepsItsPart();
        isFullOrRefuses();
        Checks.end();
    }

    private static void answers(int given) {
        StreamFilters x = new StreamFilters();
        Checks.make(x, 0, "maxrefs=3;maxarray=5;a;!b", false);
        Checks.due("otherwise", x.otherwise(9, 0, given), 0);
        Checks.due("ALLOWED stays", Checks.askClass(x, 9, "a"), 1);
        Checks.due("REJECTED stays", Checks.askClass(x, 9, "b"), 2);
        Checks.due("UNDECIDED class", Checks.askClass(x, 9, "c"), given);
        Checks.due("it was asked", x.trace(1), 1);
        Checks.due("UNDECIDED array", x.ask(9, 1, 1, 5), given);
        Checks.due("UNDECIDED primitive", x.ask(9, 2, 3, -1), given);
        Checks.due("too long", x.ask(9, 2, 3, 6), 2);
        Checks.due("UNDECIDED nothing", x.ask(9, 0, 0, 0), given);
        x.stream(0, 4, 0);
        Checks.due("too many", x.ask(9, 0, 0, 0), 2);
        Checks.due("kind", x.filter(9, 0), 4);
    }

    private static void keepsItsPart() {
        StreamFilters x = new StreamFilters();
        Checks.make(x, 0, "a", false);
        Checks.due("otherwise in its own place", x.otherwise(0, 0, 2), 0);
        x.otherwise(1, 0, 1);
        Checks.make(x, 0, "!*", false);
        Checks.due("a as it was", Checks.askClass(x, 1, "a"), 1);
        Checks.due("b: the inner default comes first", Checks.askClass(x, 1, "b"), 2);
    }

    private static void isFullOrRefuses() {
        StreamFilters x = new StreamFilters();
        Checks.due("no filter there", x.otherwise(1, 0, 1), -1);
        Checks.make(x, 0, "a", false);
        Checks.due("otherwise(-1, 0, 1)", x.otherwise(-1, 0, 1), -1);
        Checks.due("otherwise(10, 0, 1)", x.otherwise(10, 0, 1), -1);
        Checks.due("otherwise(1, -1, 1)", x.otherwise(1, -1, 1), -1);
        Checks.due("otherwise(1, 10, 1)", x.otherwise(1, 10, 1), -1);
        Checks.due("otherwise(1, 0, -1)", x.otherwise(1, 0, -1), -1);
        Checks.due("otherwise(1, 0, 3)", x.otherwise(1, 0, 3), -1);
        Checks.due("nothing was made", x.filter(1, 0), 0);
        for (int high = 2; high <= 8; high++) {
            Checks.due("otherwise " + high + " HIGH", x.otherwise(0, 0, 1), 0);
            Checks.due("HIGH", x.filter(0, 2), high);
            Checks.due("LEAVES", x.filter(0, 1), 1);
        }
        Checks.due("9 HIGH", x.otherwise(1, 0, 1), -3);
        Checks.due("nothing was made", x.filter(1, 0), 0);
        Checks.due("REFUSED before FULL", x.otherwise(1, 0, 3), -1);
    }
}
