/** Promise 1. */
public final class Promise01NewObjectTest {
    public static void main(String[] args) {
        StreamFilters x = new StreamFilters();
        for (int buffer = 0; buffer < 3; buffer++) {
            Checks.due("new: sign(" + buffer + ", 0)", x.sign(buffer, 0), -1);
            Checks.due("new: clear(" + buffer + ")", x.clear(buffer), 0);
        }
        for (int place = 0; place < 10; place++) {
            Checks.due("new: filter(" + place + ", 0)", x.filter(place, 0), 0);
            Checks.due("new: ask(" + place + ", 0, 0, 0)", x.ask(place, 0, 0, 0), -1);
            Checks.due("new: drop(" + place + ")", x.drop(place), -1);
        }
        Checks.due("new: trace(0)", x.trace(0), 0);
        Checks.due("new: trace(1)", x.trace(1), 0);
        Checks.due("new: trace(2)", x.trace(2), -2);
        Checks.due("new: fault()", x.fault(), -2);
        countsAreNought();
        objectsAreApart();
        Checks.end();
    }

    private static void countsAreNought() {
        StreamFilters x = new StreamFilters();
        Checks.make(x, 0, "maxdepth=0;maxrefs=0;maxbytes=0", false);
        Checks.due("new: no count is above 0", x.ask(0, 0, 0, 0), StreamFilters.UNDECIDED);
    }

    private static void objectsAreApart() {
        StreamFilters x = new StreamFilters();
        Checks.make(x, 0, "a", false);
        x.stream(1, 1, 1);
        StreamFilters y = new StreamFilters();
        Checks.due("another object: filter(0, 0)", y.filter(0, 0), 0);
        Checks.due("another object: sign(0, 0)", y.sign(0, 0), -1);
        y.type(0, 'b');
        Checks.due("the first object: sign(0, 0)", x.sign(0, 0), 'a');
    }
}
