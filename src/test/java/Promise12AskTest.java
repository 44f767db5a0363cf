/** Promise 12: what a TEXT FILTER answers, and which questions there are. */
public final class Promise12AskTest {
    public static void main(String[] args) {
        names();
        onlyOneMarkIsTakenOff();
        packages();
        packagesAndAllBelow();
        beginnings();
        modules();
        firstMatchDecides();
        limitsComeFirst();
        arrays();
        refuses();
        Checks.end();
    }

    private static void matches(String pattern, String name, boolean due) {
        StreamFilters x = new StreamFilters();
        Checks.make(x, 0, pattern, false);
        Checks.due("'" + name + "' by '" + pattern + "'", Checks.askClass(x, 0, name), due ? 1 : 0);
        Checks.make(x, 0, "!" + pattern, false);
        Checks.due("'" + name + "' by '!" + pattern + "'", Checks.askClass(x, 0, name), due ? 2 : 0);
    }

    private static void names() {
        matches("a.B", "a.B", true);
        matches("a.B", "a.b", false);
        matches("a.B", "a.Bc", false);
        matches("a.B", "a.", false);
        matches("a.B", "xa.B", false);
        matches("a.B", "", false);
        matches("*a", "*a", true);
        matches("*a", "ba", false);
        matches("a*b", "a*b", true);
        matches("a*b", "acb", false);
        matches("a.*b", "a.*b", true);
        matches("a".repeat(40), "a".repeat(40), true);
        matches("a".repeat(41), "a".repeat(40), false);
    }

    private static void onlyOneMarkIsTakenOff() {
        StreamFilters x = new StreamFilters();
        Checks.make(x, 0, "!!a", false);
        Checks.due("'!a' by '!!a'", Checks.askClass(x, 0, "!a"), 2);
        Checks.due("'a' by '!!a'", Checks.askClass(x, 0, "a"), 0);
        Checks.make(x, 0, "m/!a", false);
        Checks.put(x, Checks.MODULE, "m");
        Checks.due("'!a' by 'm/!a'", Checks.askClass(x, 0, "!a"), 1);
    }

    private static void packages() {
        matches("a.*", "a.B", true);
        matches("a.*", "a.", true);
        matches("a.*", "a", false);
        matches("a.*", "a.b.C", false);
        matches("a.*", "a..", false);
        matches("a.*", "ab.C", false);
        matches("a.*", "x.a.B", false);
        matches("a.*", "", false);
        matches("a.b.*", "a.b.C$D", true);
        matches("a.b.*", "a.bc", false);
        matches("a.b.*", "a.b", false);
        matches("..*", "..a", true);
        matches("..*", ".a", false);
        matches("*.*", "*.a", true);
        matches("*.*", "b.a", false);
    }

    private static void packagesAndAllBelow() {
        matches("a.**", "a.B", true);
        matches("a.**", "a.b.C", true);
        matches("a.**", "a.", true);
        matches("a.**", "a..", true);
        matches("a.**", "a", false);
        matches("a.**", "ab.C", false);
        matches("a.**", "x.a.B", false);
        matches("..**", "...", true);
        matches("..**", ".", false);
        matches("*.**", "b.C", false);
    }

    private static void beginnings() {
        matches("a*", "a", true);
        matches("a*", "ab.c.D", true);
        matches("a*", "ba", false);
        matches("a*", "", false);
        matches("*", "", true);
        matches("*", "a.b", true);
        matches("**", "*a", true);
        matches("**", "a", false);
        matches("a**", "a*b", true);
        matches("a**", "ab", false);
        matches("a.***", "a.**", true);
        matches("a.***", "a.b", false);
    }

    private static void modules() {
        StreamFilters x = new StreamFilters();
        Checks.make(x, 0, "m/a;!mod/*;m/x/y", false);
        Checks.due("no MODULE", Checks.askClass(x, 0, "a"), 0);
        Checks.put(x, Checks.MODULE, "m");
        Checks.due("MODULE m, a", x.ask(0, 1, 0, 0), 1);
        Checks.due("MODULE m, b", Checks.askClass(x, 0, "b"), 0);
        Checks.due("MODULE m, m/a", Checks.askClass(x, 0, "m/a"), 0);
        Checks.due("MODULE m, x/y", Checks.askClass(x, 0, "x/y"), 1);
        Checks.put(x, Checks.MODULE, "mod");
        Checks.due("MODULE mod", x.ask(0, 1, 0, 0), 2);
        Checks.put(x, Checks.MODULE, "mo");
        Checks.due("MODULE mo", x.ask(0, 1, 0, 0), 0);
        Checks.put(x, Checks.MODULE, "modu");
        Checks.due("MODULE modu", x.ask(0, 1, 0, 0), 0);
        Checks.make(x, 0, "a", false);
        Checks.due("without a module's name any MODULE will do", Checks.askClass(x, 0, "a"), 1);
        Checks.make(x, 0, "abcdefghijklm/*;!abcdefghijkl/*", false);
        Checks.put(x, Checks.MODULE, "abcdefghijkl");
        Checks.due("a long MODULE", x.ask(0, 1, 0, 0), 2);
    }

    private static void firstMatchDecides() {
        StreamFilters x = new StreamFilters();
        Checks.make(x, 0, "!a.b.*;a.**;!*", false);
        Checks.due("a.b.C", Checks.askClass(x, 0, "a.b.C"), 2);
        Checks.due("a.C", Checks.askClass(x, 0, "a.C"), 1);
        Checks.due("C", Checks.askClass(x, 0, "C"), 2);
        Checks.make(x, 0, "", false);
        Checks.due("no patterns", x.ask(0, 1, 0, 0), 0);
    }

    private static void limitsComeFirst() {
        StreamFilters x = new StreamFilters();
        Checks.make(x, 0, "*;maxdepth=1;maxrefs=2;maxbytes=3;maxarray=4", true);
        x.stream(1, 2, 3);
        Checks.due("at the limits", x.ask(0, 1, 1, 4), 1);
        Checks.due("array above", x.ask(0, 1, 1, 5), 2);
        Checks.due("no array: its length counts for nothing", x.ask(0, 1, 0, 5), 1);
        Checks.due("nothing: its length counts for nothing", x.ask(0, 0, 0, 5), 0);
        x.stream(2, 2, 3);
        Checks.due("too deep", x.ask(0, 1, 0, 0), 2);
        Checks.due("no pattern was compared", x.trace(0), 0);
        x.stream(1, 3, 3);
        Checks.due("too many refs", x.ask(0, 0, 0, 0), 2);
        x.stream(1, 2, 4);
        Checks.due("too many bytes", x.ask(0, 2, 1, 0), 2);
        Checks.make(x, 1, "*", true);
        x.stream(Integer.MAX_VALUE, Integer.MAX_VALUE, Integer.MAX_VALUE);
        Checks.due("no limits", x.ask(1, 1, 1, Integer.MAX_VALUE), 1);
    }

    private static void arrays() {
        StreamFilters x = new StreamFilters();
        Checks.make(x, 0, "a;!b;maxarray=0", true);
        Checks.make(x, 1, "a;!b;maxarray=0", false);
        for (int dimensions = 1; dimensions < 4; dimensions++) {
            Checks.put(x, Checks.NAME, "a");
            Checks.due("base allowed", x.ask(0, 1, dimensions, 0), 1);
            Checks.due("base not looked at", x.ask(1, 1, dimensions, 0), 0);
            Checks.due("no pattern was compared", x.trace(0), 0);
            Checks.due("too long", x.ask(0, 1, dimensions, 1), 2);
            Checks.due("too long", x.ask(1, 1, dimensions, 1), 2);
            Checks.due("length not known", x.ask(0, 1, dimensions, -1), 1);
            Checks.due("length not known", x.ask(0, 1, dimensions, -2), 1);
            Checks.due("length not known", x.ask(0, 1, dimensions, Integer.MIN_VALUE), 1);
            Checks.put(x, Checks.NAME, "b");
            Checks.due("base rejected", x.ask(0, 1, dimensions, 0), 2);
            Checks.due("base not looked at", x.ask(1, 1, dimensions, -1), 0);
            Checks.put(x, Checks.NAME, "a");
            Checks.due("primitive base", x.ask(0, 2, dimensions, 0), 0);
            Checks.due("no pattern was compared", x.trace(0), 0);
            Checks.due("primitive base, too long", x.ask(0, 2, dimensions, 1), 2);
        }
        Checks.make(x, 2, "a", true);
        Checks.due("no ARRAY limit", x.ask(2, 1, 1, -2), 1);
        Checks.due("no ARRAY limit", x.ask(2, 1, 1, -1), 1);
        Checks.due("no ARRAY limit", x.ask(2, 1, 1, Integer.MAX_VALUE), 1);
    }

    private static void refuses() {
        StreamFilters x = new StreamFilters();
        Checks.make(x, 9, "*", true);
        Checks.due("a filter that is not there", x.ask(0, 1, 0, 0), -1);
        Checks.due("filter -1", x.ask(-1, 1, 0, 0), -1);
        Checks.due("filter 10", x.ask(10, 1, 0, 0), -1);
        for (int sort = -1; sort <= 3; sort++) {
            for (int dimensions = -1; dimensions <= 4; dimensions++) {
                boolean right = sort == 0 && dimensions == 0
                        || sort == 1 && dimensions >= 0 && dimensions <= 3
                        || sort == 2 && dimensions >= 1 && dimensions <= 3;
                int due = right ? sort % 2 : -1;
                Checks.due("ask(9, " + sort + ", " + dimensions + ", 7)", x.ask(9, sort, dimensions, 7), due);
            }
        }
    }
}
