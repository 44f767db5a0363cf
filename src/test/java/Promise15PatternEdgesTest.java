/** Promise 15, the edges of pattern. */
public final class Promise15PatternEdgesTest {
    public static void main(String[] args) {
        thereIsNone();
        ofNoTextFilter();
        ofNoFilter();
        theFirstAndTheLast();
        shapes();
        Checks.end();
    }

    private static void refuses(int filter, int k) {
        Unchanged.by("pattern(" + filter + ", " + k + ", false)", x -> x.pattern(filter, k, false), -1);
        Unchanged.by("pattern(" + filter + ", " + k + ", true)", x -> x.pattern(filter, k, true), -1);
    }

    private static void thereIsNone() {
        Checks.sentence("there is none: REFUSED");
        // Filter 0 has two class patterns, 1 to 3 have one.
        for (int k : new int[] {-1, 2, 3, 45, Integer.MIN_VALUE, Integer.MAX_VALUE}) {
            refuses(0, k);
        }
        refuses(1, 1);
        StreamFilters x = new StreamFilters();
        x.read(0, true);
        Checks.due("of a text without patterns", x.pattern(0, 0, false), -1);
        Checks.make(x, 0, "maxdepth=1;;maxrefs=2", true);
        Checks.due("of a text of limits", x.pattern(0, 0, true), -1);
        Checks.make(x, 0, ";maxdepth=1;;a;", true);
        Checks.due("of a text with one", x.pattern(0, 0, true), 0);
        Checks.due("of a text with one", x.pattern(0, 1, true), -1);
    }

    private static void ofNoTextFilter() {
        Checks.sentence("What class pattern k, from 0, of a TEXT FILTER says");
        for (int filter = 4; filter < 8; filter++) {
            refuses(filter, 0);
        }
    }

    private static void ofNoFilter() {
        Checks.sentence("a filter that is not there is out of range where one is asked");
        for (int filter : new int[] {-1, 8, 9, 10, Integer.MIN_VALUE, Integer.MAX_VALUE}) {
            refuses(filter, 0);
        }
    }

    private static void theFirstAndTheLast() {
        Checks.sentence("What class pattern k, from 0, of a TEXT FILTER says: ALLOWED or REJECTED");
        StreamFilters x = new StreamFilters();
        Checks.due("30 patterns", Checks.read(x, 9, "!a;b*;".repeat(15), true), 30);
        for (int k = 0; k < 30; k++) {
            Checks.due("pattern(9, " + k + ", false)", x.pattern(9, k, false), k % 2 == 0 ? 2 : 1);
            Checks.due("pattern(9, " + k + ", true)", x.pattern(9, k, true), k % 2 == 0 ? 0 : 3);
        }
        Checks.due("pattern(9, 30, false)", x.pattern(9, 30, false), -1);
        Checks.due("45 patterns", Checks.read(x, 0, "b;".repeat(44) + "*", true), 45);
        Checks.due("the last", x.pattern(0, 44, true), 3);
        Checks.due("the last but one", x.pattern(0, 43, true), 0);
        Checks.due("behind the last", x.pattern(0, 45, true), -1);
    }

    private static void shapes() {
        Checks.sentence("0 a name, 1 a package, 2 a package and all below, 3 a beginning; 10 more if it has a module's name");
        String[][] texts = {{"a", ".", "a.", "*a", ".*a"}, {"a.*", "..*", "*.*"}, {"a.**", "..**", "*.**"},
            {"*", "a*", "**", "a**", "a.***", ".***"}};
        for (int shape = 0; shape < 4; shape++) {
            for (String q : texts[shape]) {
                shapeIs(q, shape, 1);
                shapeIs("!" + q, shape, 2);
                shapeIs("m/" + q, shape + 10, 1);
                shapeIs("!m/" + q, shape + 10, 2);
            }
        }
    }

    private static void shapeIs(String text, int shape, int says) {
        StreamFilters x = new StreamFilters();
        Checks.make(x, 0, text, false);
        Checks.due("the shape of '" + text + "'", x.pattern(0, 0, true), shape);
        Checks.due("what '" + text + "' says", x.pattern(0, 0, false), says);
        x.clear(0);
        Checks.due("the shape of '" + text + "' when PATTERN is cleared", x.pattern(0, 0, true), shape);
    }
}
