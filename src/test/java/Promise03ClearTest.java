/** Promise 3. */
public final class Promise03ClearTest {
    public static void main(String[] args) {
        StreamFilters x = new StreamFilters();
        Checks.put(x, Checks.PATTERN, "abc");
        Checks.put(x, Checks.NAME, "de");
        Checks.put(x, Checks.MODULE, "f");
        Checks.due("clear(-1)", x.clear(-1), -1);
        Checks.due("clear(3)", x.clear(3), -1);
        Checks.due("clear(1)", x.clear(1), 2);
        Checks.bufferIs(x, 0, "abc");
        Checks.bufferIs(x, 1, "");
        Checks.bufferIs(x, 2, "f");
        Checks.due("clear(1) again", x.clear(1), 0);
        Checks.due("clear(0)", x.clear(0), 3);
        Checks.due("clear(2)", x.clear(2), 1);
        Checks.bufferIs(x, 0, "");
        Checks.bufferIs(x, 2, "");
        Checks.due("type behind clear", x.type(0, 'z'), 1);
        Checks.bufferIs(x, 0, "z");
        Checks.end();
    }
}
