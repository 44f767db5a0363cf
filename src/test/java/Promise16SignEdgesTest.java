/** Promise 16, the edges of sign. */
public final class Promise16SignEdgesTest {
    public static void main(String[] args) {
        buffersAreThree();
        refusedIfThereIsNone();
        theFirstAndTheLast();
        Checks.end();
    }

    private static void buffersAreThree() {
        Checks.sentence("Numbers out of range answer REFUSED and change nothing");
        for (int buffer : new int[] {-1, 3, Integer.MIN_VALUE, Integer.MAX_VALUE}) {
            Unchanged.by("sign(" + buffer + ", 0)", x -> x.sign(buffer, 0), -1);
        }
    }

    private static void refusedIfThereIsNone() {
        Checks.sentence("REFUSED if there is none");
        // PATTERN holds 6 signs, NAME and MODULE one each.
        int[] lengths = {6, 1, 1};
        for (int buffer = 0; buffer < 3; buffer++) {
            int told = buffer;
            for (int i : new int[] {-1, lengths[buffer], 12, 40, 90, 91, Integer.MIN_VALUE, Integer.MAX_VALUE}) {
                Unchanged.by("sign(" + buffer + ", " + i + ")", x -> x.sign(told, i), -1);
            }
            Unchanged.by("sign(" + buffer + ", 0) behind clear", x -> x.clear(told), x -> x.sign(told, 0), -1);
        }
    }

    private static void theFirstAndTheLast() {
        Checks.sentence("Sign i, from 0, of a buffer");
        for (int buffer = 0; buffer < 3; buffer++) {
            int most = Checks.mostSigns(buffer);
            StringBuilder text = new StringBuilder();
            for (int i = 0; i < most; i++) {
                text.append((char) (33 + i));
            }
            StreamFilters x = new StreamFilters();
            Checks.put(x, buffer, text.toString());
            Checks.bufferIs(x, buffer, text.toString());
            x.clear(buffer);
            Checks.put(x, buffer, "z");
            Checks.bufferIs(x, buffer, "z");
            Checks.due("a sign of before", x.sign(buffer, 1), -1);
        }
    }
}
