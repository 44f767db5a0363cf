/** Promise 9. */
public final class Promise09OnlyTest {
    public static void main(String[] args) {
        answers();
        anyNameBeginsWithNothing();
        longBeginnings();
        keepsItsPart();
        isFullOrRefuses();
        Checks.end();
    }

    private static void answers() {
        StreamFilters x = new StreamFilters();
        Checks.make(x, 0, "maxbytes=3;ab;!abc;abd", true);
        Checks.put(x, Checks.PATTERN, "ab");
        Checks.due("only", x.only(1, 0), 0);
        Checks.due("kind", x.filter(1, 0), 5);
        Checks.put(x, Checks.PATTERN, "zz");
        Checks.due("the beginning itself", Checks.askClass(x, 1, "ab"), 1);
        Checks.due("it was asked", x.trace(1), 1);
        Checks.due("a longer name", Checks.askClass(x, 1, "abc"), 2);
        Checks.due("an array of it", x.ask(1, 1, 3, 7), 2);
        Checks.due("UNDECIDED stays", Checks.askClass(x, 1, "abx"), 0);
        Checks.due("it was asked", x.trace(1), 1);
        x.stream(0, 0, 4);
        Checks.due("too many bytes", x.ask(1, 1, 0, 0), 2);
        Checks.due("nothing", x.ask(1, 0, 0, 0), 0);
        Checks.due("it was not asked", x.trace(1), 0);
        Checks.due("a primitive", x.ask(1, 2, 1, 0), 0);
        Checks.due("it was not asked", x.trace(1), 0);
        Checks.due("a shorter name", Checks.askClass(x, 1, "a"), 0);
        Checks.due("it was not asked", x.trace(1), 0);
        Checks.due("another name", Checks.askClass(x, 1, "xab"), 0);
        Checks.due("another name", Checks.askClass(x, 1, "aab"), 0);
        Checks.due("no name", Checks.askClass(x, 1, ""), 0);
        Checks.due("the text of now", Checks.askClass(x, 1, "zz"), 0);
        Checks.due("it was not asked", x.trace(1), 0);
    }

    private static void anyNameBeginsWithNothing() {
        StreamFilters x = new StreamFilters();
        Checks.make(x, 0, "*", false);
        x.clear(0);
        x.only(1, 0);
        Checks.due("any name", Checks.askClass(x, 1, "abc"), 1);
        Checks.due("no name", Checks.askClass(x, 1, ""), 1);
        Checks.due("nothing", x.ask(1, 0, 0, 0), 0);
    }

    private static void longBeginnings() {
        StreamFilters x = new StreamFilters();
        Checks.make(x, 0, "*", false);
        Checks.put(x, Checks.PATTERN, "a".repeat(40));
        x.only(1, 0);
        x.type(0, 'a');
        x.only(2, 0);
        Checks.put(x, Checks.PATTERN, ";=!/.*".repeat(15));
        Checks.due("signs of any sort, and as many as PATTERN holds", x.only(3, 0), 0);
        Checks.due("40 signs", Checks.askClass(x, 1, "a".repeat(40)), 1);
        Checks.due("41 signs", x.ask(2, 1, 0, 0), 0);
        Checks.due("90 signs", Checks.askClass(x, 3, ";=!/.*".repeat(6)), 0);
        Checks.put(x, Checks.PATTERN, ";=");
        x.only(3, 0);
        Checks.due("signs of any sort", x.ask(3, 1, 0, 0), 1);
    }

    private static void keepsItsPart() {
        StreamFilters x = new StreamFilters();
        Checks.make(x, 0, "a", false);
        Checks.due("only in its own place", x.only(0, 0), 0);
        Checks.put(x, Checks.PATTERN, "");
        x.only(1, 0);
        x.drop(0);
        Checks.due("a as it was", Checks.askClass(x, 1, "a"), 1);
    }

    private static void isFullOrRefuses() {
        StreamFilters x = new StreamFilters();
        Checks.due("no filter there", x.only(1, 0), -1);
        Checks.make(x, 0, "a", false);
        Checks.due("only(-1, 0)", x.only(-1, 0), -1);
        Checks.due("only(10, 0)", x.only(10, 0), -1);
        Checks.due("only(1, -1)", x.only(1, -1), -1);
        Checks.due("only(1, 10)", x.only(1, 10), -1);
        for (int high = 2; high <= 8; high++) {
            Checks.due("only " + high + " HIGH", x.only(0, 0), 0);
            Checks.due("HIGH", x.filter(0, 2), high);
            Checks.due("LEAVES", x.filter(0, 1), 1);
        }
        Checks.due("9 HIGH", x.only(1, 0), -3);
        Checks.due("nothing was made", x.filter(1, 0), 0);
        Checks.due("all eight are asked", Checks.askClass(x, 0, "a"), 1);
        Checks.due("REFUSED before FULL", x.only(10, 0), -1);
    }
}
