/** Promise 14, the edges of filter. */
public final class Promise14FilterEdgesTest {
    public static void main(String[] args) {
        filtersAreTen();
        notThere();
        kinds();
        noTextFilter();
        limitsOrNone();
        anotherWhat();
        changesNothing();
        Checks.end();
    }

    private static void filtersAreTen() {
        Checks.sentence("What of filter 0 .. 9");
        for (int wrong : new int[] {-1, 10, Integer.MIN_VALUE, Integer.MAX_VALUE}) {
            for (int what = -1; what < 10; what++) {
                int told = what;
                Unchanged.by("filter(" + wrong + ", " + what + ")", x -> x.filter(wrong, told), -1);
            }
        }
        StreamFilters x = new StreamFilters();
        Checks.due("filter(0, 0)", x.filter(0, 0), 0);
        Checks.due("filter(9, 0)", x.filter(9, 0), 0);
    }

    private static void notThere() {
        Checks.sentence("0 it is not there .. and, REFUSED if it is not there");
        for (int filter = 0; filter < 10; filter++) {
            StreamFilters x = new StreamFilters();
            Checks.due("filter(" + filter + ", 0)", x.filter(filter, 0), 0);
            for (int what = 1; what < 10; what++) {
                Checks.due("filter(" + filter + ", " + what + ")", x.filter(filter, what), -1);
            }
            x.read(filter, true);
            Checks.due("filter(" + filter + ", 0) when read", x.filter(filter, 0), 1);
            x.drop(filter);
            for (int what = 0; what < 10; what++) {
                Checks.due("filter(" + filter + ", " + what + ") when dropped", x.filter(filter, what), what == 0 ? 0 : -1);
            }
        }
    }

    /** Filters 1 to 5 are of the kinds 1 to 5. */
    private static StreamFilters allKinds() {
        StreamFilters x = new StreamFilters();
        Checks.make(x, 1, "a;maxdepth=1;maxrefs=2;maxbytes=3;maxarray=4", true);
        x.join(2, 1, 1);
        x.strict(3, 1, true);
        x.otherwise(4, 1, 0);
        x.only(5, 1);
        return x;
    }

    private static void kinds() {
        Checks.sentence("1 TEXT, 2 JOINED, 3 STRICT, 4 WITH DEFAULT, 5 ONLY");
        StreamFilters x = allKinds();
        for (int kind = 0; kind < 6; kind++) {
            Checks.due("filter(" + kind + ", 0)", x.filter(kind, 0), kind);
        }
        Checks.sentence("1 LEAVES; 2 how HIGH");
        for (int kind = 1; kind < 6; kind++) {
            Checks.due("filter(" + kind + ", 1)", x.filter(kind, 1), kind == 2 ? 2 : 1);
            Checks.due("filter(" + kind + ", 2)", x.filter(kind, 2), kind == 1 ? 1 : 2);
        }
        for (int high = 3; high <= 8; high++) {
            x.join(2, high % 2 == 0 ? 1 : 2, high % 2 == 0 ? 2 : 1);
            Checks.due("LEAVES of one more", x.filter(2, 1), high);
            Checks.due("HIGH of one more", x.filter(2, 2), high);
        }
    }

    private static void noTextFilter() {
        Checks.sentence("and, REFUSED if it is no TEXT FILTER");
        StreamFilters x = allKinds();
        int[] due = {1, 1, 2, 3, 4, 1};
        for (int what = 3; what < 9; what++) {
            Checks.due("filter(1, " + what + ")", x.filter(1, what), due[what - 3]);
            for (int kind = 2; kind < 6; kind++) {
                Checks.due("filter(" + kind + ", " + what + ")", x.filter(kind, what), -1);
            }
        }
    }

    private static void limitsOrNone() {
        Checks.sentence("4 .. 7 its limits on DEPTH, REFS, BYTES, ARRAY, -2 for none");
        String[] names = {"maxdepth=", "maxrefs=", "maxbytes=", "maxarray="};
        for (int which = 0; which < 4; which++) {
            for (int number : new int[] {0, 1, 999_999_999}) {
                StreamFilters x = new StreamFilters();
                Checks.make(x, 0, names[which] + number, false);
                for (int limit = 0; limit < 4; limit++) {
                    int due = limit == which ? number : -2;
                    Checks.due("limit " + limit + " of " + names[which] + number, x.filter(0, 4 + limit), due);
                }
            }
        }
        Checks.sentence("3 its class patterns .. 8: 1 if it looks at BASES, else 0");
        StreamFilters x = new StreamFilters();
        x.read(0, false);
        Checks.due("no patterns", x.filter(0, 3), 0);
        Checks.due("no BASES", x.filter(0, 8), 0);
        Checks.make(x, 0, "a;".repeat(45), true);
        Checks.due("45 patterns", x.filter(0, 3), 45);
        Checks.due("BASES", x.filter(0, 8), 1);
    }

    private static void anotherWhat() {
        Checks.sentence("Another what: REFUSED");
        StreamFilters x = allKinds();
        for (int kind = 0; kind < 6; kind++) {
            for (int what : new int[] {-3, -2, -1, 9, 10, Integer.MIN_VALUE, Integer.MAX_VALUE}) {
                Checks.due("filter(" + kind + ", " + what + ")", x.filter(kind, what), -1);
            }
        }
    }

    private static void changesNothing() {
        Checks.sentence("Numbers out of range answer REFUSED and change nothing");
        Unchanged.by("filter(0, 9)", x -> x.filter(0, 9), -1);
        Unchanged.by("filter(4, 3)", x -> x.filter(4, 3), -1);
        Unchanged.by("filter(9, 1)", x -> x.filter(9, 1), -1);
        Unchanged.by("filter(0, 7)", x -> x.filter(0, 7), 8);
    }
}
