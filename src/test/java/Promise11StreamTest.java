/** Promise 11. */
public final class Promise11StreamTest {
    private static final int MOST = Integer.MAX_VALUE;

    public static void main(String[] args) {
        StreamFilters x = new StreamFilters();
        Checks.make(x, 0, "maxdepth=3", false);
        Checks.make(x, 1, "maxrefs=4", false);
        Checks.make(x, 2, "maxbytes=5", false);
        answers(x, 3, 4, 5, 0, 0, 0);
        answers(x, 4, 4, 5, 2, 0, 0);
        answers(x, 3, 5, 5, 0, 2, 0);
        answers(x, 3, 4, 6, 0, 0, 2);
        answers(x, MOST, MOST, MOST, 2, 2, 2);
        Checks.due("stream(-1, 0, 0)", x.stream(-1, 0, 0), -1);
        Checks.due("stream(0, -1, 0)", x.stream(0, -1, 0), -1);
        Checks.due("stream(0, 0, -1)", x.stream(0, 0, -1), -1);
        Checks.due("stream(0, 0, MIN)", x.stream(0, 0, Integer.MIN_VALUE), -1);
        for (int filter = 0; filter < 3; filter++) {
            Checks.due("REFUSED changes nothing", x.ask(filter, 0, 0, 0), 2);
        }
        answers(x, 0, 0, 0, 0, 0, 0);
        Checks.end();
    }

    private static void answers(StreamFilters x, int depth, int refs, int bytes, int one, int two, int three) {
        String call = "stream(" + depth + ", " + refs + ", " + bytes + ")";
        Checks.due(call, x.stream(depth, refs, bytes), 0);
        Checks.due(call + ", ask(0)", x.ask(0, 0, 0, 0), one);
        Checks.due(call + ", ask(1)", x.ask(1, 0, 0, 0), two);
        Checks.due(call + ", ask(2)", x.ask(2, 0, 0, 0), three);
    }
}
