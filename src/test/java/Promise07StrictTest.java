/** Promise 7. */
public final class Promise07StrictTest {
    public static void main(String[] args) {
        answers(false);
        answers(true);
        keepsItsPart();
        isFullOrRefuses();
        Checks.end();
    }

    private static void answers(boolean all) {
        StreamFilters x = new StreamFilters();
        Checks.make(x, 0, "maxdepth=3;maxarray=5;a;!b", true);
        Checks.due("strict", x.strict(1, 0, all), 0);
        Checks.due("ALLOWED stays", Checks.askClass(x, 1, "a"), 1);
        Checks.due("REJECTED stays", Checks.askClass(x, 1, "b"), 2);
        Checks.due("UNDECIDED class", Checks.askClass(x, 1, "c"), 2);
        Checks.due("it was asked", x.trace(1), 1);
        Checks.due("array of an UNDECIDED class", x.ask(1, 1, 2, 4), 2);
        Checks.due("UNDECIDED primitive", x.ask(1, 2, 1, 5), 0);
        Checks.due("too long", x.ask(1, 2, 1, 6), 2);
        Checks.due("UNDECIDED nothing", x.ask(1, 0, 0, 0), all ? 2 : 0);
        x.stream(4, 0, 0);
        Checks.due("too deep", x.ask(1, 0, 0, 0), 2);
        Checks.due("kind", x.filter(1, 0), 3);
        x.stream(0, 0, 0);
        Checks.make(x, 0, "a", false);
        x.strict(1, 0, all);
        Checks.put(x, Checks.NAME, "a");
        Checks.due("array whose base is not looked at", x.ask(1, 1, 1, 1), 2);
    }

    private static void keepsItsPart() {
        StreamFilters x = new StreamFilters();
        Checks.make(x, 0, "a", false);
        Checks.due("strict in its own place", x.strict(0, 0, false), 0);
        Checks.due("a", Checks.askClass(x, 0, "a"), 1);
        Checks.due("b", Checks.askClass(x, 0, "b"), 2);
        x.strict(1, 0, true);
        Checks.make(x, 0, "!*", false);
        Checks.due("a as it was", Checks.askClass(x, 1, "a"), 1);
    }

    private static void isFullOrRefuses() {
        StreamFilters x = new StreamFilters();
        Checks.due("no filter there", x.strict(1, 0, true), -1);
        Checks.make(x, 0, "a", false);
        Checks.due("strict(-1, 0)", x.strict(-1, 0, true), -1);
        Checks.due("strict(10, 0)", x.strict(10, 0, true), -1);
        Checks.due("strict(1, -1)", x.strict(1, -1, true), -1);
        Checks.due("strict(1, 10)", x.strict(1, 10, true), -1);
        for (int high = 2; high <= 8; high++) {
            Checks.due("strict " + high + " HIGH", x.strict(0, 0, false), 0);
            Checks.due("HIGH", x.filter(0, 2), high);
            Checks.due("LEAVES", x.filter(0, 1), 1);
        }
        Checks.due("9 HIGH", x.strict(1, 0, false), -3);
        Checks.due("nothing was made", x.filter(1, 0), 0);
        Checks.due("REFUSED before FULL", x.strict(10, 0, false), -1);
    }
}
