/** Promise 4: reading, and what the pieces of a text may be. */
public final class Promise04ReadTest {
    public static void main(String[] args) {
        countsPatterns();
        readsLimits();
        refusesPlaces();
        badChangesNothing();
        keepsWhatItRead();
        Checks.end();
    }

    private static void countsPatterns() {
        StreamFilters x = new StreamFilters();
        Checks.due("an empty text", x.read(0, false), 0);
        Checks.due("it is there", x.filter(0, 0), 1);
        counts(x, ";;;", 0);
        counts(x, "a", 1);
        counts(x, ";a;;!b;", 2);
        counts(x, "maxdepth=1;a;maxrefs=2;b.*;maxbytes=3;c.**;maxarray=4;*", 4);
        counts(x, "a;".repeat(45), 45);
        counts(x, "*;".repeat(44) + "ab", 45);
        counts(x, ";".repeat(90), 0);
        counts(x, "a".repeat(90), 1);
        counts(x, "m/n/o;!!a;*.a;a*b;a.*.b;**;..**;..*;***;a.***", 10);
    }

    private static void counts(StreamFilters x, String text, int due) {
        Checks.due("read of " + text, Checks.read(x, 1, text, true), due);
        Checks.due("filter(1, 3) of " + text, x.filter(1, 3), due);
    }

    private static void readsLimits() {
        limits("", -2, -2, -2, -2);
        limits("maxdepth=1;maxrefs=22;maxbytes=333;maxarray=4444", 1, 22, 333, 4444);
        limits("maxdepth=0", 0, -2, -2, -2);
        limits("maxrefs=999999999", -2, 999999999, -2, -2);
        limits("maxbytes=000000007;a", -2, -2, 7, -2);
        limits("maxarray=5;a;maxarray=6;maxdepth=9;maxarray=3", 9, -2, -2, 3);
    }

    private static void limits(String text, int depth, int refs, int bytes, int array) {
        StreamFilters x = new StreamFilters();
        Checks.make(x, 9, text, false);
        Checks.due("DEPTH of " + text, x.filter(9, 4), depth);
        Checks.due("REFS of " + text, x.filter(9, 5), refs);
        Checks.due("BYTES of " + text, x.filter(9, 6), bytes);
        Checks.due("ARRAY of " + text, x.filter(9, 7), array);
    }

    private static void refusesPlaces() {
        StreamFilters x = new StreamFilters();
        for (int place = 0; place < 10; place++) {
            Checks.due("read to " + place, x.read(place, false), 0);
        }
        Checks.put(x, Checks.PATTERN, "=");
        Checks.due("read to -1 of a BAD text", x.read(-1, false), -1);
        Checks.due("read to 10 of a BAD text", x.read(10, false), -1);
        Checks.due("read to 9 of a BAD text", x.read(9, false), -2);
    }

    private static void badChangesNothing() {
        StreamFilters x = new StreamFilters();
        Checks.make(x, 4, "maxdepth=5;a;!b", true);
        Checks.due("BAD", Checks.read(x, 4, "maxdepth=6;c;.*", false), -2);
        Checks.due("its patterns", x.filter(4, 3), 2);
        Checks.due("its DEPTH", x.filter(4, 4), 5);
        Checks.due("its BASES", x.filter(4, 8), 1);
        Checks.bufferIs(x, 0, "maxdepth=6;c;.*");
        Checks.due("BAD into a free place", x.read(5, false), -2);
        Checks.due("the place", x.filter(5, 0), 0);
    }

    private static void keepsWhatItRead() {
        StreamFilters x = new StreamFilters();
        Checks.make(x, 0, "abc;!*", false);
        Checks.bufferIs(x, 0, "abc;!*");
        Checks.put(x, Checks.PATTERN, "xyz;!*");
        Checks.due("the text of then counts", Checks.askClass(x, 0, "abc"), 1);
        Checks.due("the text of now does not", Checks.askClass(x, 0, "xyz"), 2);
        Checks.due("read in its place", x.read(0, true), 2);
        Checks.due("the new text counts", Checks.askClass(x, 0, "xyz"), 1);
        Checks.due("the old one does not", Checks.askClass(x, 0, "abc"), 2);
        Checks.due("BASES of now", x.filter(0, 8), 1);
        x.strict(1, 0, false);
        Checks.due("read in the place of another kind", x.read(1, false), 2);
        Checks.due("its kind", x.filter(1, 0), 1);
    }
}
