/** Promise 1, the edges of a new object. */
public final class Promise01NewObjectEdgesTest {
    public static void main(String[] args) {
        buffersAreEmpty();
        filtersAreNotThere();
        traceIsThatOfNoAsk();
        emptyBuffersAreTexts();
        countsAreNought();
        the512thCallAnswers();
        Checks.end();
    }

    private static void buffersAreEmpty() {
        Checks.sentence("PATTERN, at most 90 signs, NAME, at most 40, MODULE, at most 12; all empty at first");
        StreamFilters x = new StreamFilters();
        for (int buffer = 0; buffer < 3; buffer++) {
            for (int i = 0; i <= Checks.mostSigns(buffer); i++) {
                Checks.due("sign(" + buffer + ", " + i + ")", x.sign(buffer, i), -1);
            }
            Checks.due("type(" + buffer + ", 0)", x.type(buffer, 0), 0);
            Checks.due("clear(" + buffer + ")", x.clear(buffer), 0);
        }
    }

    private static void filtersAreNotThere() {
        Checks.sentence("FILTERS 0 .. 9 are there or not (not at first)");
        StreamFilters x = new StreamFilters();
        for (int place = 0; place < 10; place++) {
            Checks.due("filter(" + place + ", 0)", x.filter(place, 0), 0);
            for (int what = 1; what < 9; what++) {
                Checks.due("filter(" + place + ", " + what + ")", x.filter(place, what), -1);
            }
            Checks.due("pattern(" + place + ", 0)", x.pattern(place, 0, false), -1);
            Checks.due("ask(" + place + ")", x.ask(place, 1, 0, 0), -1);
            Checks.due("join of " + place, x.join(0, place, place), -1);
            Checks.due("strict over " + place, x.strict(0, place, true), -1);
            Checks.due("otherwise over " + place, x.otherwise(0, place, 0), -1);
            Checks.due("only over " + place, x.only(0, place), -1);
            Checks.due("drop(" + place + ")", x.drop(place), -1);
        }
    }

    private static void traceIsThatOfNoAsk() {
        Checks.sentence("All 0 (2: -2) before the first");
        StreamFilters x = new StreamFilters();
        Checks.due("trace(0)", x.trace(0), 0);
        Checks.due("trace(1)", x.trace(1), 0);
        Checks.due("trace(2)", x.trace(2), -2);
    }

    private static void emptyBuffersAreTexts() {
        Checks.sentence("All empty");
        StreamFilters x = new StreamFilters();
        Checks.due("fault() of the empty PATTERN", x.fault(), -2);
        Checks.due("read of the empty PATTERN", x.read(0, false), 0);
        Checks.due("only with the empty PATTERN", x.only(1, 0), 0);
        Checks.due("the empty NAME begins so", x.ask(1, 1, 0, 0), 0);
        Checks.due("it was asked", x.trace(1), 1);
        Checks.put(x, Checks.PATTERN, "!m/*;a*;*");
        x.read(2, false);
        Checks.due("the empty NAME and MODULE", x.ask(2, 1, 0, 0), 1);
        Checks.due("match the last pattern alone", x.trace(2), 2);
    }

    private static void countsAreNought() {
        Checks.sentence("DEPTH, REFS and BYTES are 0");
        for (String limit : new String[] {"maxdepth=0", "maxrefs=0", "maxbytes=0"}) {
            StreamFilters x = new StreamFilters();
            Checks.make(x, 0, limit, false);
            Checks.due(limit, x.ask(0, 0, 0, 0), 0);
        }
    }

    private static void the512thCallAnswers() {
        Checks.sentence("An object is used for at most 512 calls after it has been made");
        StreamFilters x = new StreamFilters();
        for (int call = 1; call <= 511; call++) {
            Checks.due("call " + call, x.type(0, 0), 0);
        }
        Checks.due("call 512", x.type(0, 'a'), 1);
        StreamFilters y = new StreamFilters();
        for (int call = 1; call <= 511; call++) {
            Checks.due("call " + call, y.read(call % 10, false), 0);
        }
        Checks.due("call 512", y.filter(9, 0), 1);
    }
}
