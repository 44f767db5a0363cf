/** Promise 2, the edges of type. */
public final class Promise02TypeEdgesTest {
    public static void main(String[] args) {
        buffersAreThree();
        noughtsAreLeftOut();
        codesOutOfRange();
        codesAtTheEdges();
        tooLong();
        answersItsLength();
        codesAreTestedBeforeTheLength();
        Checks.end();
    }

    private static void buffersAreThree() {
        Checks.sentence("buffer 0 PATTERN, 1 NAME, 2 MODULE");
        for (int buffer : new int[] {-1, 3, 256, Integer.MIN_VALUE, Integer.MAX_VALUE}) {
            Unchanged.by("type(" + buffer + ", 'a')", x -> x.type(buffer, 'a'), -1);
            Unchanged.by("type(" + buffer + ", 0)", x -> x.type(buffer, 0), -1);
        }
        for (int buffer = 0; buffer < 3; buffer++) {
            StreamFilters x = new StreamFilters();
            Checks.due("type(" + buffer + ", 'z')", x.type(buffer, 'z'), 1);
            for (int other = 0; other < 3; other++) {
                Checks.bufferIs(x, other, other == buffer ? "z" : "");
            }
        }
    }

    private static void noughtsAreLeftOut() {
        Checks.sentence("The bytes of the number, from the highest on, those that are 0 left out, are put at its end");
        for (int bits = 0; bits < 256; bits++) {
            long signs = 0;
            StringBuilder due = new StringBuilder("!");
            for (int k = 0; k < 8; k++) {
                boolean there = (bits >> 7 - k & 1) == 1;
                signs = signs << 8 | (there ? 'a' + k : 0);
                due.append(there ? "" + (char) ('a' + k) : "");
            }
            StreamFilters x = new StreamFilters();
            x.type(1, '!');
            Checks.due("type(1, " + signs + ")", x.type(1, signs), due.length());
            Checks.bufferIs(x, 1, due.toString());
        }
    }

    private static void codesOutOfRange() {
        Checks.sentence("One is none of 33 .. 126: REFUSED");
        for (int code : new int[] {1, 32, 127, 128, 255}) {
            for (int shift = 0; shift < 64; shift += 8) {
                long alone = (long) code << shift;
                long among = Checks.bytes("abcdefgh") & ~(255L << shift) | alone;
                Unchanged.by("type(1, " + alone + ")", x -> x.type(1, alone), -1);
                Unchanged.by("type(1, " + among + ")", x -> x.type(1, among), -1);
            }
        }
        Unchanged.by("type(0, -1)", x -> x.type(0, -1L), -1);
        Unchanged.by("type(2, the least number)", x -> x.type(2, Long.MIN_VALUE), -1);
        Unchanged.by("type(2, the greatest number)", x -> x.type(2, Long.MAX_VALUE), -1);
    }

    private static void codesAtTheEdges() {
        Checks.sentence("Signs have codes 33 .. 126");
        for (int code : new int[] {33, 126}) {
            for (int shift = 0; shift < 64; shift += 8) {
                StreamFilters x = new StreamFilters();
                Checks.due("type of code " + code + " at " + shift, x.type(2, (long) code << shift), 1);
                Checks.due("its sign", x.sign(2, 0), code);
            }
        }
    }

    private static void tooLong() {
        Checks.sentence("It would be too long: FULL");
        for (int buffer = 0; buffer < 3; buffer++) {
            int full = buffer;
            int most = Checks.mostSigns(buffer);
            for (int room = 0; room < 8; room++) {
                String held = "a".repeat(most - room);
                for (int signs = room + 1; signs <= 8; signs++) {
                    long typed = Checks.bytes("b".repeat(signs));
                    Unchanged.by(signs + " signs where " + room + " have room", x -> Checks.put(x, full, held),
                            x -> x.type(full, typed), -3);
                }
                StreamFilters x = new StreamFilters();
                Checks.put(x, buffer, held);
                Checks.due("just what has room", x.type(buffer, Checks.bytes("b".repeat(room))), most);
                Checks.bufferIs(x, buffer, held + "b".repeat(room));
            }
        }
    }

    private static void answersItsLength() {
        Checks.sentence("Answers its length");
        for (int buffer = 0; buffer < 3; buffer++) {
            StreamFilters x = new StreamFilters();
            Checks.due("no sign, empty", x.type(buffer, 0), 0);
            for (int length = 1; length <= Checks.mostSigns(buffer); length++) {
                Checks.due("sign " + length, x.type(buffer, 'a'), length);
            }
            Checks.due("no sign, full", x.type(buffer, 0), Checks.mostSigns(buffer));
        }
    }

    private static void codesAreTestedBeforeTheLength() {
        Checks.sentence("Every call tests its numbers first .. then what its comment says, in that order");
        Unchanged.by("a wrong code where no sign has room", x -> Checks.put(x, 2, "abcdefghijkl"),
                x -> x.type(2, Checks.bytes("abcdefg") << 8 | 127), -1);
        Unchanged.by("a wrong code and a wrong buffer", x -> x.type(3, 127), -1);
    }
}
