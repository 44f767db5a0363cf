/** Promise 13, the edges of trace. */
public final class Promise13TraceEdgesTest {
    public static void main(String[] args) {
        noughtsBeforeTheFirst();
        anotherWhat();
        refusedAsksDoNotCount();
        comparedPatterns();
        textFiltersAsked();
        thePatternThatMatchedLast();
        startsOverWithEachAsk();
        Checks.end();
    }

    private static void traceIs(String of, StreamFilters x, int compared, int texts, int match) {
        Checks.due(of + ": trace(0)", x.trace(0), compared);
        Checks.due(of + ": trace(1)", x.trace(1), texts);
        Checks.due(of + ": trace(2)", x.trace(2), match);
    }

    private static void noughtsBeforeTheFirst() {
        Checks.sentence("All 0 (2: -2) before the first");
        StreamFilters x = new StreamFilters();
        traceIs("new", x, 0, 0, -2);
        Checks.due("a REFUSED ask", x.ask(0, 1, 0, 0), -1);
        traceIs("behind a REFUSED ask", x, 0, 0, -2);
        Checks.make(x, 0, "*", true);
        x.join(1, 0, 0);
        traceIs("behind read and join", x, 0, 0, -2);
        Checks.due("a REFUSED ask", x.ask(0, 2, 0, 0), -1);
        traceIs("behind a REFUSED ask", x, 0, 0, -2);
    }

    private static void anotherWhat() {
        Checks.sentence("Another what: REFUSED");
        for (int what : new int[] {-2, -1, 3, 4, Integer.MIN_VALUE, Integer.MAX_VALUE}) {
            Unchanged.by("trace(" + what + ")", x -> x.trace(what), -1);
            Checks.due("trace(" + what + ") of a new object", new StreamFilters().trace(what), -1);
        }
        Unchanged.by("trace(0)", x -> x.trace(0), 2);
    }

    private static void refusedAsksDoNotCount() {
        Checks.sentence("Of the latest ask that was not REFUSED");
        StreamFilters x = new StreamFilters();
        Checks.make(x, 0, "b;a", true);
        Checks.askClass(x, 0, "a");
        int[][] refused = {{1, 1, 0}, {-1, 1, 0}, {10, 1, 0}, {0, -1, 0}, {0, 3, 0}, {0, 0, 1}, {0, 2, 0}, {0, 1, 4}, {0, 1, -1}};
        for (int[] of : refused) {
            Checks.due("ask(" + of[0] + ", " + of[1] + ", " + of[2] + ", 0)", x.ask(of[0], of[1], of[2], 0), -1);
            traceIs("behind it", x, 2, 1, 1);
        }
        Checks.put(x, Checks.NAME, "b");
        x.stream(1, 2, 3);
        x.read(1, false);
        x.strict(0, 0, true);
        x.drop(0);
        traceIs("behind other calls", x, 2, 1, 1);
    }

    private static void comparedPatterns() {
        Checks.sentence("0 how many class patterns were COMPARED");
        StreamFilters x = new StreamFilters();
        Checks.put(x, Checks.PATTERN, "b;".repeat(45));
        Checks.makeTwentyFourLeaves(x, 1);
        Checks.askClass(x, 1, "a");
        traceIs("24 LEAVES of 45 patterns each", x, 24 * 45, 24, -2);
        x.ask(1, 1, 1, 0);
        traceIs("an array whose base is not looked at", x, 0, 24, -2);
        Checks.make(x, 0, "", false);
        x.ask(0, 1, 0, 0);
        traceIs("no patterns", x, 0, 1, -2);
    }

    private static void textFiltersAsked() {
        Checks.sentence("1 how many TEXT FILTERS were asked");
        StreamFilters x = new StreamFilters();
        Checks.make(x, 0, "a;maxdepth=0", false);
        x.strict(1, 0, true);
        x.otherwise(2, 1, 0);
        x.join(3, 2, 0);
        Checks.put(x, Checks.PATTERN, "z");
        x.only(4, 3);
        Checks.askClass(x, 2, "a");
        traceIs("over one", x, 1, 1, 0);
        x.ask(3, 1, 0, 0);
        traceIs("joined of two", x, 2, 2, 0);
        x.ask(4, 1, 0, 0);
        traceIs("ONLY of another beginning", x, 0, 0, -2);
        x.ask(3, 0, 0, 0);
        traceIs("SORT 0: the first one is STRICT and REJECTS", x, 0, 1, -2);
        x.stream(1, 0, 0);
        x.ask(3, 1, 0, 0);
        traceIs("the first one REJECTS by its limit", x, 0, 1, -2);
    }

    private static void thePatternThatMatchedLast() {
        Checks.sentence("2 the number, from 0, of the class pattern that matched last in it, -2 if none did");
        StreamFilters x = new StreamFilters();
        Checks.make(x, 0, "x;y;a", false);
        Checks.make(x, 1, "z", false);
        Checks.make(x, 2, "z;a", false);
        Checks.make(x, 3, "b;".repeat(44) + "a", false);
        x.join(4, 0, 1);
        x.join(5, 1, 0);
        x.join(6, 0, 2);
        Checks.askClass(x, 0, "a");
        traceIs("the third", x, 3, 1, 2);
        x.ask(1, 1, 0, 0);
        traceIs("none", x, 1, 1, -2);
        x.ask(3, 1, 0, 0);
        traceIs("the 45th", x, 45, 1, 44);
        x.ask(4, 1, 0, 0);
        traceIs("of the one alone", x, 4, 2, 2);
        x.ask(5, 1, 0, 0);
        traceIs("of the other alone", x, 4, 2, 2);
        x.ask(6, 1, 0, 0);
        traceIs("of both: the last", x, 5, 2, 1);
    }

    private static void startsOverWithEachAsk() {
        Checks.sentence("Of the latest ask");
        StreamFilters x = new StreamFilters();
        Checks.make(x, 0, "b;a", true);
        Checks.put(x, Checks.NAME, "a");
        for (int turn = 0; turn < 3; turn++) {
            x.ask(0, 1, 0, 0);
            traceIs("a class", x, 2, 1, 1);
        }
        x.ask(0, 0, 0, 0);
        traceIs("nothing", x, 0, 1, -2);
        Checks.due("trace(1) again", x.trace(1), 1);
    }
}
