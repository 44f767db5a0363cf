/** Promise 5, the edges of fault. */
public final class Promise05FaultEdgesTest {
    public static void main(String[] args) {
        emptyPiecesAreCounted();
        noneIsBad();
        theFirstBadIsTold();
        thePatternOfNow();
        changesNothing();
        Checks.end();
    }

    private static void faultIs(String text, int due) {
        StreamFilters x = new StreamFilters();
        Checks.put(x, Checks.PATTERN, text);
        Checks.due("fault() of '" + text + "'", x.fault(), due);
    }

    private static void emptyPiecesAreCounted() {
        Checks.sentence("How many pieces, empty ones counted, come before the first BAD one");
        for (int before = 0; before < 90; before++) {
            faultIs(";".repeat(before) + "!", before);
            faultIs(";".repeat(before) + "!" + ";".repeat(89 - before), before);
        }
        for (int before = 0; before < 45; before++) {
            faultIs("a;".repeat(before) + "/", before);
        }
        faultIs("maxdepth=1;;a;;!b;;;m/", 7);
    }

    private static void noneIsBad() {
        Checks.sentence("-2 if none is BAD");
        faultIs("", -2);
        faultIs(";", -2);
        faultIs(";".repeat(90), -2);
        faultIs("a".repeat(90), -2);
        faultIs("a;".repeat(45), -2);
        faultIs("maxarray=123456789;".repeat(4) + "*;!m/a.**;", -2);
    }

    private static void theFirstBadIsTold() {
        Checks.sentence("pieces in order; so the first BAD piece is told");
        faultIs("!;!", 0);
        faultIs("a;!;=", 1);
        faultIs("a;=;!", 1);
        faultIs(".*;maxdepth=", 0);
        faultIs("maxdepth=;.*", 0);
        faultIs(";/a;.**;!", 1);
        faultIs(";b;.**;/a", 2);
    }

    private static void thePatternOfNow() {
        Checks.sentence("in PATTERN as it is now");
        StreamFilters x = new StreamFilters();
        Checks.due("no read came before", x.fault(), -2);
        x.type(0, '!');
        Checks.due("'!'", x.fault(), 0);
        Checks.due("read", x.read(0, true), -2);
        x.type(0, 'a');
        Checks.due("'!a'", x.fault(), -2);
        x.type(0, Checks.bytes(";="));
        Checks.due("'!a;='", x.fault(), 1);
        Checks.due("a text that has no room", x.type(0, -1L), -1);
        Checks.due("'!a;=' again", x.fault(), 1);
        x.clear(0);
        Checks.due("nothing", x.fault(), -2);
        x.type(1, '!');
        x.type(2, '!');
        Checks.due("the other buffers are not looked at", x.fault(), -2);
    }

    private static void changesNothing() {
        Checks.sentence("How many pieces .. come before the first BAD one in PATTERN as it is now");
        Unchanged.by("fault()", x -> x.fault(), -2);
        Unchanged.by("fault()", x -> Checks.put(x, Checks.PATTERN, "maxdepth=9;b;!"), x -> x.fault(), 2);
    }
}
