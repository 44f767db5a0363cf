/** Promise 3, the edges of clear. */
public final class Promise03ClearEdgesTest {
    public static void main(String[] args) {
        buffersAreThree();
        isEmpty();
        answersHowLongItWas();
        touchesNothingElse();
        Checks.end();
    }

    private static void buffersAreThree() {
        Checks.sentence("Numbers out of range answer REFUSED and change nothing");
        for (int buffer : new int[] {-1, 3, Integer.MIN_VALUE, Integer.MAX_VALUE}) {
            Unchanged.by("clear(" + buffer + ")", x -> x.clear(buffer), -1);
        }
    }

    private static void isEmpty() {
        Checks.sentence("The buffer is empty");
        for (int buffer = 0; buffer < 3; buffer++) {
            int most = Checks.mostSigns(buffer);
            StreamFilters x = new StreamFilters();
            Checks.put(x, buffer, "a".repeat(most));
            x.clear(buffer);
            for (int i = 0; i < most; i++) {
                Checks.due("sign(" + buffer + ", " + i + ")", x.sign(buffer, i), -1);
            }
            Checks.put(x, buffer, "b".repeat(most));
            Checks.bufferIs(x, buffer, "b".repeat(most));
            x.clear(buffer);
            Checks.due("one sign behind clear", x.type(buffer, 'c'), 1);
            Checks.bufferIs(x, buffer, "c");
        }
    }

    private static void answersHowLongItWas() {
        Checks.sentence("Answers how long it was");
        for (int buffer = 0; buffer < 3; buffer++) {
            int most = Checks.mostSigns(buffer);
            for (int length : new int[] {0, 1, 8, most - 1, most}) {
                StreamFilters x = new StreamFilters();
                Checks.put(x, buffer, "a".repeat(length));
                Checks.due("clear of " + length + " signs", x.clear(buffer), length);
                Checks.due("clear again", x.clear(buffer), 0);
            }
        }
    }

    private static void touchesNothingElse() {
        Checks.sentence("The buffer is empty");
        Unchanged.by("clear of an empty buffer", x -> x.clear(Checks.MODULE), x -> x.clear(Checks.MODULE), 0);
        Unchanged.by("clear, and the same signs again", x -> {
            int was = x.clear(Checks.PATTERN);
            Checks.put(x, Checks.PATTERN, "c;!d.*");
            return was;
        }, 6);
    }
}
