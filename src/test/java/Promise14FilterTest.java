/** Promise 14. */
public final class Promise14FilterTest {
    public static void main(String[] args) {
        StreamFilters x = new StreamFilters();
        tells(x, 0, 0, -1, -1, -1, -1, -1, -1, -1, -1);
        Checks.make(x, 0, "", false);
        tells(x, 0, 1, 1, 1, 0, -2, -2, -2, -2, 0);
        Checks.make(x, 0, "a;maxdepth=4;!b;maxrefs=5;maxbytes=0;c;maxarray=999999999", true);
        tells(x, 0, 1, 1, 1, 3, 4, 5, 0, 999999999, 1);
        x.join(1, 0, 0);
        tells(x, 1, 2, 2, 2, -1, -1, -1, -1, -1, -1);
        x.strict(2, 1, true);
        tells(x, 2, 3, 2, 3, -1, -1, -1, -1, -1, -1);
        x.otherwise(3, 2, 0);
        tells(x, 3, 4, 2, 4, -1, -1, -1, -1, -1, -1);
        x.only(9, 3);
        tells(x, 9, 5, 2, 5, -1, -1, -1, -1, -1, -1);
        x.join(4, 9, 0);
        tells(x, 4, 2, 3, 6, -1, -1, -1, -1, -1, -1);
        x.join(4, 0, 9);
        tells(x, 4, 2, 3, 6, -1, -1, -1, -1, -1, -1);
        x.drop(9);
        tells(x, 9, 0, -1, -1, -1, -1, -1, -1, -1, -1);
        for (int what = -1; what < 10; what++) {
            Checks.due("filter(-1, " + what + ")", x.filter(-1, what), -1);
            Checks.due("filter(10, " + what + ")", x.filter(10, what), -1);
        }
        Checks.end();
    }

    private static void tells(StreamFilters x, int filter, int... due) {
        for (int what = 0; what < due.length; what++) {
            Checks.due("filter(" + filter + ", " + what + ")", x.filter(filter, what), due[what]);
        }
        for (int what : new int[] {-1, 9, 10, Integer.MIN_VALUE, Integer.MAX_VALUE}) {
            Checks.due("filter(" + filter + ", " + what + ")", x.filter(filter, what), -1);
        }
    }
}
