/** Promise 12, the edges of ask and of what a TEXT FILTER answers. */
public final class Promise12AskEdgesTest {
    private static final int MOST = Integer.MAX_VALUE;

    public static void main(String[] args) {
        filtersMustBeThere();
        sortsAndDimensions();
        lengthsAreAny();
        lengthsNotKnown();
        theNameAndModuleOfNow();
        countsAboveLimits();
        nothingIsUndecided();
        lengthsAboveTheArrayLimit();
        basesOrNot();
        primitivesAreUndecided();
        patternsInOrder();
        noneMatches();
        allBelowBegins();
        packagesHaveNoFurtherDot();
        beginningsOfAnyName();
        namesAreTheSame();
        modulesAreTheSame();
        Checks.end();
    }

    private static void filtersMustBeThere() {
        Checks.sentence("a filter that is not there is out of range where one is asked");
        for (int wrong : new int[] {-1, 8, 9, 10, Integer.MIN_VALUE, MOST}) {
            Unchanged.by("ask(" + wrong + ", 1, 0, 0)", x -> x.ask(wrong, 1, 0, 0), -1);
            Unchanged.by("ask(" + wrong + ", 0, 0, 0)", x -> x.ask(wrong, 0, 0, 0), -1);
        }
        StreamFilters x = new StreamFilters();
        x.read(0, true);
        x.read(9, true);
        Checks.due("ask(0)", x.ask(0, 1, 0, 0), 0);
        Checks.due("ask(9)", x.ask(9, 1, 0, 0), 0);
    }

    private static void sortsAndDimensions() {
        Checks.sentence("sort 0 .. 2, dimensions 0 .. 3 (0 for sort 0, at least 1 for sort 2)");
        int[] numbers = {Integer.MIN_VALUE, -1, 0, 1, 2, 3, 4, MOST};
        for (int sort : numbers) {
            for (int dimensions : numbers) {
                boolean right = sort == 0 && dimensions == 0
                        || sort == 1 && dimensions >= 0 && dimensions <= 3
                        || sort == 2 && dimensions >= 1 && dimensions <= 3;
                String call = "ask(0, " + sort + ", " + dimensions + ", 0)";
                if (right) {
                    StreamFilters x = new StreamFilters();
                    Checks.make(x, 0, "!*", true);
                    Checks.due(call, x.ask(0, sort, dimensions, 0), sort == 1 ? 2 : 0);
                } else {
                    Unchanged.by(call, x -> x.ask(0, sort, dimensions, 0), -1);
                }
            }
        }
    }

    private static void lengthsAreAny() {
        Checks.sentence("length any");
        StreamFilters x = new StreamFilters();
        Checks.make(x, 0, "*;maxarray=0", true);
        for (int length : new int[] {Integer.MIN_VALUE, -2, -1, 0, 1, MOST}) {
            Checks.due("SORT 0, length " + length, x.ask(0, 0, 0, length), 0);
            Checks.due("SORT 1, no DIMENSIONS, length " + length, x.ask(0, 1, 0, length), 1);
            Checks.due("SORT 1, length " + length, x.ask(0, 1, 1, length), length > 0 ? 2 : 1);
            Checks.due("SORT 2, length " + length, x.ask(0, 2, 3, length), length > 0 ? 2 : 0);
        }
    }

    private static void lengthsNotKnown() {
        Checks.sentence("with DIMENSIONS a LENGTH (maybe below 0: not known)");
        for (int length : new int[] {-1, -2, -3, Integer.MIN_VALUE}) {
            for (int limit : new int[] {0, 1, 999_999_999}) {
                StreamFilters x = new StreamFilters();
                Checks.make(x, 0, "*;maxarray=" + limit, true);
                Checks.due("LENGTH " + length + ", limit " + limit, x.ask(0, 1, 1, length), 1);
                Checks.due("LENGTH " + length + ", limit " + limit, x.ask(0, 2, 1, length), 0);
            }
        }
    }

    private static void theNameAndModuleOfNow() {
        Checks.sentence("1 a class with the NAME and MODULE of now");
        StreamFilters x = new StreamFilters();
        Checks.make(x, 0, "m/a;!m/ab;!n/*", false);
        Checks.due("both empty", x.ask(0, 1, 0, 0), 0);
        x.type(1, 'a');
        Checks.due("no MODULE", x.ask(0, 1, 0, 0), 0);
        x.type(2, 'm');
        Checks.due("m/a", x.ask(0, 1, 0, 0), 1);
        x.type(1, 'b');
        Checks.due("m/ab", x.ask(0, 1, 0, 0), 2);
        Checks.due("a longer MODULE", x.type(2, Checks.bytes("abcdefgh")), 9);
        Checks.due("mabcdefgh/ab", x.ask(0, 1, 0, 0), 0);
        Checks.put(x, Checks.MODULE, "n");
        Checks.due("n/ab", x.ask(0, 1, 0, 0), 2);
        x.clear(1);
        Checks.due("n and no NAME", x.ask(0, 1, 0, 0), 2);
        x.clear(2);
        Checks.due("both empty again", x.ask(0, 1, 0, 0), 0);
    }

    private static void countsAboveLimits() {
        Checks.sentence("A TEXT FILTER: REJECTED if DEPTH, REFS or BYTES is above its limit");
        int[] limits = {0, 1, 999_999_998, 999_999_999};
        for (int limit : limits) {
            StreamFilters x = new StreamFilters();
            Checks.make(x, 0, "*;maxdepth=" + limit, true);
            Checks.make(x, 1, "*;maxrefs=" + limit, true);
            Checks.make(x, 2, "*;maxbytes=" + limit, true);
            for (int which = 0; which < 3; which++) {
                countIs(x, which, limit, false);
                countIs(x, which, limit + 1, true);
                countIs(x, which, MOST, true);
            }
        }
        StreamFilters none = new StreamFilters();
        Checks.make(none, 0, "*", true);
        none.stream(MOST, MOST, MOST);
        Checks.due("no limits", none.ask(0, 1, 0, 0), 1);
    }

    /** Filter 0 has a limit on DEPTH, 1 on REFS, 2 on BYTES; one count is given, the others are 0. */
    private static void countIs(StreamFilters x, int which, int count, boolean above) {
        x.stream(which == 0 ? count : 0, which == 1 ? count : 0, which == 2 ? count : 0);
        for (int filter = 0; filter < 3; filter++) {
            boolean rejects = filter == which && above;
            String call = "count " + which + " is " + count + ": filter " + filter;
            Checks.due(call + ", SORT 0", x.ask(filter, 0, 0, 0), rejects ? 2 : 0);
            Checks.due(call + ", SORT 1", x.ask(filter, 1, 0, 0), rejects ? 2 : 1);
            Checks.due(call + ", patterns compared", x.trace(0), rejects ? 0 : 1);
            Checks.due(call + ", an array", x.ask(filter, 1, 1, -1), rejects ? 2 : 1);
            Checks.due(call + ", SORT 2", x.ask(filter, 2, 1, -1), rejects ? 2 : 0);
        }
    }

    private static void nothingIsUndecided() {
        Checks.sentence("SORT 0: UNDECIDED");
        for (String text : new String[] {"*", "!*", "a", "!a", "", "maxarray=0;!*"}) {
            StreamFilters x = new StreamFilters();
            Checks.make(x, 0, text, true);
            Checks.put(x, Checks.NAME, "a");
            Checks.due("SORT 0 by '" + text + "'", x.ask(0, 0, 0, 9), 0);
            Checks.due("no pattern is compared", x.trace(0), 0);
            Checks.due("the filter is asked", x.trace(1), 1);
        }
    }

    private static void lengthsAboveTheArrayLimit() {
        Checks.sentence("With DIMENSIONS: REJECTED if the LENGTH is above its ARRAY limit");
        for (int limit : new int[] {0, 1, 999_999_999}) {
            for (boolean bases : new boolean[] {false, true}) {
                StreamFilters x = new StreamFilters();
                Checks.make(x, 0, "*;maxarray=" + limit, bases);
                for (int dimensions = 1; dimensions < 4; dimensions++) {
                    int base = bases ? 1 : 0;
                    Checks.due("at the limit", x.ask(0, 1, dimensions, limit), base);
                    Checks.due("below it", x.ask(0, 1, dimensions, limit - 1), base);
                    Checks.due("not known", x.ask(0, 1, dimensions, -1), base);
                    Checks.due("not known", x.ask(0, 1, dimensions, -2), base);
                    Checks.due("not known", x.ask(0, 1, dimensions, Integer.MIN_VALUE), base);
                    Checks.due("one above", x.ask(0, 1, dimensions, limit + 1), 2);
                    Checks.due("no pattern is compared", x.trace(0), 0);
                    Checks.due("far above", x.ask(0, 1, dimensions, MOST), 2);
                    Checks.due("SORT 2, at the limit", x.ask(0, 2, dimensions, limit), 0);
                    Checks.due("SORT 2, one above", x.ask(0, 2, dimensions, limit + 1), 2);
                }
                Checks.due("no DIMENSIONS", x.ask(0, 1, 0, MOST), 1);
            }
        }
        StreamFilters none = new StreamFilters();
        Checks.make(none, 0, "*", true);
        Checks.due("no ARRAY limit", none.ask(0, 1, 3, MOST), 1);
    }

    private static void basesOrNot() {
        Checks.sentence("then if the filter looks at BASES it goes on with the base as if there were no DIMENSIONS, else UNDECIDED");
        StreamFilters x = new StreamFilters();
        Checks.make(x, 0, "a;!b", true);
        Checks.make(x, 1, "a;!b", false);
        String[] names = {"c", "a", "b"};
        for (int due = 0; due < 3; due++) {
            Checks.put(x, Checks.NAME, names[due]);
            for (int dimensions = 1; dimensions < 4; dimensions++) {
                Checks.due("with BASES, " + names[due], x.ask(0, 1, dimensions, 0), due);
                Checks.due("patterns compared", x.trace(0), due == 1 ? 1 : 2);
                Checks.due("without, " + names[due], x.ask(1, 1, dimensions, 0), 0);
                Checks.due("no pattern is compared", x.trace(0), 0);
                Checks.due("none matched", x.trace(2), -2);
            }
            Checks.due("without BASES a class itself is looked at", x.ask(1, 1, 0, 0), due);
        }
    }

    private static void primitivesAreUndecided() {
        Checks.sentence("SORT 2 (its base): UNDECIDED");
        for (String text : new String[] {"*", "!*", "int", ""}) {
            for (boolean bases : new boolean[] {false, true}) {
                StreamFilters x = new StreamFilters();
                Checks.make(x, 0, text, bases);
                Checks.put(x, Checks.NAME, "int");
                for (int dimensions = 1; dimensions < 4; dimensions++) {
                    Checks.due("SORT 2 by '" + text + "'", x.ask(0, 2, dimensions, 0), 0);
                    Checks.due("no pattern is compared", x.trace(0), 0);
                }
            }
        }
    }

    private static void patternsInOrder() {
        Checks.sentence("the class patterns are compared in order till one matches, each one COMPARED: what that says");
        for (int before = 0; before < 44; before++) {
            StreamFilters x = new StreamFilters();
            Checks.make(x, 0, "b;".repeat(before) + "!a;" + "a;".repeat(43 - before), false);
            Checks.due("the first that matches", Checks.askClass(x, 0, "a"), 2);
            Checks.due("COMPARED", x.trace(0), before + 1);
            Checks.due("its number", x.trace(2), before);
        }
    }

    private static void noneMatches() {
        Checks.sentence("UNDECIDED if none does");
        for (int count = 0; count <= 45; count++) {
            StreamFilters x = new StreamFilters();
            Checks.make(x, 0, "b;".repeat(count), false);
            Checks.due("none of " + count, Checks.askClass(x, 0, "a"), 0);
            Checks.due("all COMPARED", x.trace(0), count);
            Checks.due("none matched", x.trace(2), -2);
        }
    }

    private static void matches(String pattern, String name, boolean due) {
        StreamFilters x = new StreamFilters();
        Checks.make(x, 0, pattern, false);
        Checks.due("'" + name + "' by '" + pattern + "'", Checks.askClass(x, 0, name), due ? 1 : 0);
        Checks.make(x, 0, "!m/" + pattern, false);
        Checks.put(x, Checks.MODULE, "m");
        Checks.due("'" + name + "' by '!m/" + pattern + "'", x.ask(0, 1, 0, 0), due ? 2 : 0);
    }

    private static void allBelowBegins() {
        Checks.sentence("a class matches if its name begins with them");
        matches("a.**", "a.", true);
        matches("a.**", "a.b", true);
        matches("a.**", "a.b.c.d", true);
        matches("a.**", "a..", true);
        matches("a.**", "a", false);
        matches("a.**", "", false);
        matches("a.**", "b.a.c", false);
        matches("a.**", "ab.c", false);
        matches("..**", "..", true);
        matches("..**", ".", false);
        matches("a".repeat(39) + ".**", "a".repeat(39) + ".", true);
        matches("a".repeat(40) + ".**", "a".repeat(40), false);
    }

    private static void packagesHaveNoFurtherDot() {
        Checks.sentence("its name is these signs, '.', and any signs without '.' (maybe none)");
        matches("a.*", "a.", true);
        matches("a.*", "a.b", true);
        matches("a.*", "a.bcd", true);
        matches("a.*", "a", false);
        matches("a.*", "", false);
        matches("a.*", "a..", false);
        matches("a.*", "a..b", false);
        matches("a.*", "a.b.", false);
        matches("a.*", "a.b.c", false);
        matches("a.*", "ab", false);
        matches("a.*", "aab", false);
        matches("a.b.*", "a.b.c", true);
        matches("a.b.*", "a.c.b", false);
        matches("..*", "..", true);
        matches("..*", "..a", true);
        matches("..*", "...", false);
        matches("..*", ".", false);
        matches("a.*", "a." + "b".repeat(38), true);
        matches("a.*", "a." + "b".repeat(37) + ".", false);
        matches("a".repeat(39) + ".*", "a".repeat(39) + ".", true);
        matches("a".repeat(40) + ".*", "a".repeat(40), false);
    }

    private static void beginningsOfAnyName() {
        Checks.sentence("its name begins with q without the '*' (any does if nothing is left)");
        matches("*", "", true);
        matches("*", "a", true);
        matches("*", "a.b".repeat(13), true);
        matches("a*", "a", true);
        matches("a*", "ab", true);
        matches("a*", "a.b.c", true);
        matches("a*", "", false);
        matches("a*", "b", false);
        matches("**", "*", true);
        matches("**", "", false);
        matches("**", "a", false);
        matches("a.b*", "a.b", true);
        matches("a.b*", "a.", false);
        matches("a".repeat(40) + "*", "a".repeat(40), true);
        matches("a".repeat(41) + "*", "a".repeat(40), false);
    }

    private static void namesAreTheSame() {
        Checks.sentence("a class matches if its name is q");
        matches("a", "a", true);
        matches("a", "", false);
        matches("a", "aa", false);
        matches("aa", "a", false);
        matches("a", "b", false);
        matches("a", "A", false);
        matches("a.", "a.", true);
        matches(".", ".", true);
        matches("*a", "*a", true);
        matches("*a", "aa", false);
        matches("a".repeat(40), "a".repeat(40), true);
        matches("a".repeat(40), "a".repeat(39), false);
        matches("a".repeat(39), "a".repeat(40), false);
        matches("a".repeat(41), "a".repeat(40), false);
        matches("a".repeat(39) + "b", "a".repeat(40), false);
    }

    private static void modulesAreTheSame() {
        Checks.sentence("With a module's name a class matches only if MODULE is that too");
        String twelve = "abcdefghijkl";
        moduleIs("m", "m", true);
        moduleIs("m", "", false);
        moduleIs("m", "mm", false);
        moduleIs("mm", "m", false);
        moduleIs("m", "M", false);
        moduleIs("*", "*", true);
        moduleIs("*", "m", false);
        moduleIs("m*", "mm", false);
        moduleIs(twelve, twelve, true);
        moduleIs(twelve, "abcdefghijk", false);
        moduleIs("abcdefghijk", twelve, false);
        moduleIs(twelve + "m", twelve, false);
        StreamFilters x = new StreamFilters();
        Checks.make(x, 0, "a", false);
        Checks.put(x, Checks.NAME, "a");
        for (String module : new String[] {"", "m", twelve}) {
            Checks.put(x, Checks.MODULE, module);
            Checks.due("without a module's name, MODULE '" + module + "'", x.ask(0, 1, 0, 0), 1);
        }
    }

    private static void moduleIs(String name, String module, boolean due) {
        for (String q : new String[] {"a.b", "a.*", "a.**", "*"}) {
            StreamFilters x = new StreamFilters();
            Checks.make(x, 0, name + "/" + q, false);
            Checks.put(x, Checks.MODULE, module);
            Checks.due(name + "/" + q + ", MODULE '" + module + "'", Checks.askClass(x, 0, "a.b"), due ? 1 : 0);
            Checks.due("another name", Checks.askClass(x, 0, "b.b"), due && q.equals("*") ? 1 : 0);
        }
    }
}
