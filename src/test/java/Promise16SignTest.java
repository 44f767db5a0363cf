/** Promise 16. */
public final class Promise16SignTest {
    public static void main(String[] args) {
        StreamFilters x = new StreamFilters();
        Checks.put(x, Checks.PATTERN, "!~ab");
        Checks.put(x, Checks.NAME, "cd");
        Checks.put(x, Checks.MODULE, "e");
        Checks.bufferIs(x, 0, "!~ab");
        Checks.bufferIs(x, 1, "cd");
        Checks.bufferIs(x, 2, "e");
        for (int buffer = 0; buffer < 3; buffer++) {
            Checks.due("sign(" + buffer + ", -1)", x.sign(buffer, -1), -1);
            Checks.due("sign(" + buffer + ", MIN)", x.sign(buffer, Integer.MIN_VALUE), -1);
            Checks.due("sign(" + buffer + ", MAX)", x.sign(buffer, Integer.MAX_VALUE), -1);
            Checks.due("sign(" + buffer + ", 90)", x.sign(buffer, 90), -1);
        }
        Checks.due("sign(-1, 0)", x.sign(-1, 0), -1);
        Checks.due("sign(3, 0)", x.sign(3, 0), -1);
        x.clear(0);
        Checks.due("a sign that was cleared", x.sign(0, 0), -1);
        Checks.due("a sign that was cleared", x.sign(0, 3), -1);
        Checks.end();
    }
}
