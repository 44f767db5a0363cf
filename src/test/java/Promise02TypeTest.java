/** Promise 2. */
public final class Promise02TypeTest {
    public static void main(String[] args) {
        putsSignsAtTheEnd();
        refusesOtherCodes();
        isFull(Checks.PATTERN, 90);
        isFull(Checks.NAME, 40);
        isFull(Checks.MODULE, 12);
        refusesBeforeItIsFull();
        Checks.end();
    }

    private static void putsSignsAtTheEnd() {
        StreamFilters x = new StreamFilters();
        Checks.due("type abc", x.type(1, Checks.bytes("abc")), 3);
        Checks.due("type of no sign", x.type(1, 0), 3);
        Checks.due("noughts are left out", x.type(1, 0x6400_6500_0000_6600L), 6);
        Checks.due("eight signs", x.type(1, Checks.bytes("ghijklmn")), 14);
        Checks.bufferIs(x, 1, "abcdefghijklmn");
        Checks.bufferIs(x, 0, "");
        Checks.bufferIs(x, 2, "");
    }

    private static void refusesOtherCodes() {
        for (int code = 1; code < 256; code++) {
            for (int shift = 0; shift < 64; shift += 8) {
                typesCode(code, shift);
            }
        }
        StreamFilters x = new StreamFilters();
        Checks.due("type(-1, a)", x.type(-1, 'a'), -1);
        Checks.due("type(3, a)", x.type(3, 'a'), -1);
        Checks.due("type(MIN, a)", x.type(Integer.MIN_VALUE, 'a'), -1);
        Checks.due("type(-1, nothing)", x.type(-1, 0), -1);
    }

    private static void typesCode(int code, int shift) {
        boolean isSign = code >= 33 && code <= 126;
        StreamFilters x = new StreamFilters();
        x.type(0, 'a');
        long typed = Checks.bytes("aaaaaaaa") & ~(255L << shift) | (long) code << shift;
        Checks.due("type of code " + code + " at " + shift, x.type(0, typed), isSign ? 9 : -1);
        Checks.due("sign of code " + code, x.sign(0, 8 - shift / 8), isSign ? code : -1);
        Checks.due("clear behind code " + code, x.clear(0), isSign ? 9 : 1);
    }

    private static void isFull(int buffer, int most) {
        StreamFilters x = new StreamFilters();
        for (int i = 1; i < most; i++) {
            Checks.due("type sign " + i, x.type(buffer, '!' + i % 90), i);
        }
        Checks.due("two signs where one has room", x.type(buffer, Checks.bytes("yz")), -3);
        Checks.due("nothing was put", x.sign(buffer, most - 1), -1);
        Checks.due("one sign", x.type(buffer, '~'), most);
        Checks.due("one sign too many", x.type(buffer, '~'), -3);
        Checks.due("no sign where none has room", x.type(buffer, 0), most);
        Checks.due("the last sign", x.sign(buffer, most - 1), '~');
        Checks.due("clear", x.clear(buffer), most);
    }

    private static void refusesBeforeItIsFull() {
        StreamFilters x = new StreamFilters();
        Checks.put(x, Checks.MODULE, "abcdefghijkl");
        Checks.due("a wrong code in a full buffer", x.type(2, 32), -1);
        Checks.due("a high code in a full buffer", x.type(2, -1L), -1);
        Checks.due("a wrong buffer", x.type(4, -1L), -1);
    }
}
