/** Promise 6. */
public final class Promise06JoinTest {
    private static final String[] ONE_OF_EACH = {"b", "a", "!a"};

    public static void main(String[] args) {
        answersOfBoth();
        asksInOrder();
        keepsItsParts();
        countsLeaves();
        countsHeight();
        refuses();
        Checks.end();
    }

    private static void answersOfBoth() {
        int[][] due = {{0, 1, 2}, {1, 1, 2}, {2, 2, 2}};
        for (int a = 0; a < 3; a++) {
            for (int b = 0; b < 3; b++) {
                StreamFilters x = new StreamFilters();
                Checks.make(x, 3, ONE_OF_EACH[a], false);
                Checks.make(x, 4, ONE_OF_EACH[b], false);
                Checks.due("join", x.join(5, 3, 4), 0);
                Checks.due("joined of " + a + " and " + b, Checks.askClass(x, 5, "a"), due[a][b]);
                Checks.due("texts asked", x.trace(1), a == 2 ? 1 : 2);
            }
        }
    }

    private static void asksInOrder() {
        StreamFilters x = new StreamFilters();
        Checks.make(x, 0, "x;y;a", false);
        Checks.make(x, 1, "z;!a", false);
        x.join(2, 0, 1);
        x.join(3, 1, 0);
        Checks.due("allows, then rejects", Checks.askClass(x, 2, "a"), 2);
        Checks.due("both are compared", x.trace(0), 5);
        Checks.due("the last match", x.trace(2), 1);
        Checks.due("rejects", x.ask(3, 1, 0, 0), 2);
        Checks.due("one is compared", x.trace(0), 2);
        Checks.due("joined with itself", x.join(4, 0, 0), 0);
        x.ask(4, 1, 0, 0);
        Checks.due("it is asked twice", x.trace(1), 2);
    }

    private static void keepsItsParts() {
        StreamFilters x = new StreamFilters();
        Checks.make(x, 0, "a", false);
        Checks.make(x, 1, "b", false);
        Checks.due("join in the place of a part", x.join(0, 0, 1), 0);
        Checks.make(x, 1, "!*", false);
        Checks.due("a", Checks.askClass(x, 0, "a"), 1);
        Checks.due("b", Checks.askClass(x, 0, "b"), 1);
        Checks.due("kind", x.filter(0, 0), 2);
    }

    private static void countsLeaves() {
        StreamFilters x = new StreamFilters();
        Checks.make(x, 0, "a", false);
        x.join(1, 0, 0);
        x.join(2, 1, 0);
        x.join(3, 2, 2);
        x.join(4, 3, 3);
        Checks.due("12 LEAVES", x.filter(4, 1), 12);
        Checks.due("24 LEAVES", x.join(5, 4, 4), 0);
        Checks.due("24 LEAVES", x.filter(5, 1), 24);
        Checks.due("25 LEAVES", x.join(5, 5, 0), -3);
        Checks.due("25 LEAVES", x.join(5, 0, 5), -3);
        Checks.due("48 LEAVES", x.join(6, 5, 5), -3);
        Checks.due("FULL changes nothing", x.filter(5, 1), 24);
        Checks.due("FULL changes nothing", x.filter(6, 0), 0);
        Checks.due("all leaves are asked", Checks.askClass(x, 5, "a"), 1);
        Checks.due("all leaves are asked", x.trace(1), 24);
        x.strict(7, 5, true);
        Checks.due("LEAVES of others are those of theirs", x.join(8, 7, 0), -3);
    }

    private static void countsHeight() {
        StreamFilters x = new StreamFilters();
        Checks.make(x, 0, "a", false);
        x.join(1, 0, 0);
        for (int high = 3; high <= 8; high++) {
            Checks.due("join " + high + " HIGH", x.join(1, high % 2 == 0 ? 1 : 0, high % 2 == 0 ? 0 : 1), 0);
            Checks.due("HIGH", x.filter(1, 2), high);
        }
        Checks.due("9 HIGH", x.join(1, 1, 0), -3);
        Checks.due("9 HIGH", x.join(2, 0, 1), -3);
        Checks.due("still 8 HIGH", x.filter(1, 2), 8);
        Checks.due("8 LEAVES", x.filter(1, 1), 8);
        Checks.due("nothing was made", x.filter(2, 0), 0);
    }

    private static void refuses() {
        StreamFilters x = new StreamFilters();
        Checks.make(x, 0, "a", false);
        Checks.make(x, 9, "b", false);
        int[][] wrong = {{-1, 0, 9}, {10, 0, 9}, {1, -1, 9}, {1, 10, 9}, {1, 0, -1}, {1, 0, 10}, {1, 1, 0}, {1, 0, 2}};
        for (int[] of : wrong) {
            Checks.due("join(" + of[0] + ", " + of[1] + ", " + of[2] + ")", x.join(of[0], of[1], of[2]), -1);
        }
        Checks.due("nothing was made", x.filter(1, 0), 0);
        Checks.due("join(1, 0, 9)", x.join(1, 0, 9), 0);
        for (int high = 3; high <= 8; high++) {
            x.join(1, 1, 0);
        }
        Checks.due("REFUSED before FULL", x.join(10, 1, 0), -1);
        Checks.due("REFUSED before FULL", x.join(1, 1, 5), -1);
    }
}
