/** Promise 11, the edges of stream. */
public final class Promise11StreamEdgesTest {
    private static final int MOST = Integer.MAX_VALUE;

    public static void main(String[] args) {
        eachIsNoughtOrAbove();
        belowNoughtIsRefused();
        isWhatCountsNow();
        Checks.end();
    }

    private static void eachIsNoughtOrAbove() {
        Checks.sentence("each 0 or above");
        StreamFilters x = new StreamFilters();
        int[] numbers = {0, 1, 999_999_999, 1_000_000_000, MOST};
        for (int depth : numbers) {
            for (int refs : numbers) {
                for (int bytes : numbers) {
                    Checks.due("stream(" + depth + ", " + refs + ", " + bytes + ")", x.stream(depth, refs, bytes), 0);
                }
            }
        }
    }

    private static void belowNoughtIsRefused() {
        Checks.sentence("Numbers out of range answer REFUSED and change nothing");
        for (int wrong : new int[] {-1, -2, -5, Integer.MIN_VALUE}) {
            Unchanged.by("stream(" + wrong + ", 1, 1)", x -> x.stream(wrong, 1, 1), -1);
            Unchanged.by("stream(1, " + wrong + ", 1)", x -> x.stream(1, wrong, 1), -1);
            Unchanged.by("stream(1, 1, " + wrong + ")", x -> x.stream(1, 1, wrong), -1);
            Unchanged.by("stream(" + wrong + ", 99, 99)", x -> x.stream(wrong, 99, 99), -1);
            Unchanged.by("stream(99, " + wrong + ", 99)", x -> x.stream(99, wrong, 99), -1);
            Unchanged.by("stream(99, 99, " + wrong + ")", x -> x.stream(99, 99, wrong), -1);
            Unchanged.by("all " + wrong, x -> x.stream(wrong, wrong, wrong), -1);
        }
    }

    private static void isWhatCountsNow() {
        Checks.sentence("DEPTH, REFS and BYTES of now");
        StreamFilters x = new StreamFilters();
        Checks.make(x, 0, "maxdepth=1", false);
        Checks.make(x, 1, "maxrefs=1", false);
        Checks.make(x, 2, "maxbytes=1", false);
        for (int bits = 0; bits < 8; bits++) {
            x.stream(1 + (bits & 1), 1 + (bits >> 1 & 1), 1 + (bits >> 2));
            for (int filter = 0; filter < 3; filter++) {
                Checks.due("ask(" + filter + ") of " + bits, x.ask(filter, 0, 0, 0), (bits >> filter & 1) * 2);
            }
        }
        x.stream(0, 0, 0);
        for (int filter = 0; filter < 3; filter++) {
            Checks.due("ask(" + filter + ") of noughts again", x.ask(filter, 0, 0, 0), 0);
        }
    }
}
