/** Promise 15. */
public final class Promise15PatternTest {
    public static void main(String[] args) {
        StreamFilters x = new StreamFilters();
        Checks.due("of no filter", x.pattern(0, 0, false), -1);
        Checks.make(x, 0, "a;!a.*;maxdepth=1;;a.**;!a*;*;m/a;!m/a.*;m/a.**;!m/*;**;a.***;..*;!..**", false);
        int[] says = {1, 2, 1, 2, 1, 1, 2, 1, 2, 1, 1, 1, 2};
        int[] shapes = {0, 1, 2, 3, 3, 10, 11, 12, 13, 3, 3, 1, 2};
        for (int k = 0; k < says.length; k++) {
            Checks.due("pattern(0, " + k + ", false)", x.pattern(0, k, false), says[k]);
            Checks.due("pattern(0, " + k + ", true)", x.pattern(0, k, true), shapes[k]);
        }
        x.strict(1, 0, false);
        refuses(x, 0, says.length);
        refuses(x, 0, -1);
        refuses(x, 0, Integer.MAX_VALUE);
        refuses(x, 0, Integer.MIN_VALUE);
        refuses(x, 1, 0);
        refuses(x, 2, 0);
        refuses(x, -1, 0);
        refuses(x, 10, 0);
        Checks.due("31 patterns", Checks.read(x, 9, "!a;".repeat(29) + "b;c", true), 31);
        Checks.due("the last", x.pattern(9, 30, false), 1);
        Checks.due("the last but two", x.pattern(9, 28, false), 2);
        refuses(x, 9, 31);
        Checks.end();
    }

    private static void refuses(StreamFilters x, int filter, int k) {
        Checks.due("pattern(" + filter + ", " + k + ", false)", x.pattern(filter, k, false), -1);
        Checks.due("pattern(" + filter + ", " + k + ", true)", x.pattern(filter, k, true), -1);
    }
}
