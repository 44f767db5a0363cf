/** Promise 13. */
public final class Promise13TraceTest {
    public static void main(String[] args) {
        StreamFilters x = new StreamFilters();
        Checks.make(x, 0, "a;b;!c;d*", true);
        traceIs(x, 0, 0, -2);
        Checks.askClass(x, 0, "a");
        traceIs(x, 1, 1, 0);
        Checks.askClass(x, 0, "c");
        traceIs(x, 3, 1, 2);
        Checks.askClass(x, 0, "e");
        traceIs(x, 4, 1, -2);
        Checks.askClass(x, 0, "dd");
        traceIs(x, 4, 1, 3);
        onlyAskCounts(x);
        x.ask(0, 0, 0, 0);
        traceIs(x, 0, 1, -2);
        joined();
        Checks.due("trace(-1)", x.trace(-1), -1);
        Checks.due("trace(3)", x.trace(3), -1);
        Checks.due("trace(MAX)", x.trace(Integer.MAX_VALUE), -1);
        Checks.end();
    }

    private static void onlyAskCounts(StreamFilters x) {
        Checks.due("REFUSED", x.ask(5, 1, 0, 0), -1);
        Checks.due("REFUSED", x.ask(0, 0, 1, 0), -1);
        Checks.due("REFUSED", x.ask(0, 3, 0, 0), -1);
        x.clear(1);
        x.stream(1, 1, 1);
        x.join(1, 0, 0);
        x.drop(1);
        traceIs(x, 4, 1, 3);
    }

    private static void joined() {
        StreamFilters x = new StreamFilters();
        Checks.make(x, 0, "x;y;a", true);
        Checks.make(x, 1, "z", true);
        Checks.make(x, 2, "!a;maxdepth=0", true);
        x.join(3, 0, 1);
        x.join(4, 3, 2);
        Checks.askClass(x, 3, "a");
        traceIs(x, 4, 2, 2);
        Checks.askClass(x, 4, "a");
        traceIs(x, 5, 3, 0);
        x.stream(1, 0, 0);
        x.ask(4, 1, 0, 0);
        traceIs(x, 4, 3, 2);
        x.ask(2, 1, 0, 0);
        traceIs(x, 0, 1, -2);
    }

    private static void traceIs(StreamFilters x, int compared, int texts, int match) {
        Checks.due("trace(0)", x.trace(0), compared);
        Checks.due("trace(1)", x.trace(1), texts);
        Checks.due("trace(2)", x.trace(2), match);
    }
}
