/** What the tests share: answers are compared, and what is not as due is printed and counted. */
final class Checks {
    static final int PATTERN = 0;
    static final int NAME = 1;
    static final int MODULE = 2;

    private static final int[] MOST_SIGNS = {90, 40, 12};

    private static int wrong = 0;
    private static String sentence = "";

    private Checks() {
    }

    /** The sentence of the document that the next answers are due by; it stands before what is printed. */
    static void sentence(String told) {
        sentence = "\"" + told + "\": ";
    }

    static void due(String call, long got, long want) {
        if (got != want) {
            wrong++;
            System.out.println(sentence + call + " answered " + got + ", due is " + want);
        }
    }

    static int mostSigns(int buffer) {
        return MOST_SIGNS[buffer];
    }

    static void end() {
        if (wrong != 0) {
            System.out.println(wrong + " answers are not as due");
            System.exit(1);
        }
    }

    /** At most eight signs as the bytes of a number. */
    static long bytes(String signs) {
        long packed = 0;
        for (int i = 0; i < signs.length(); i++) {
            packed = packed << 8 | signs.charAt(i);
        }
        return packed;
    }

    /** The buffer holds just the text from here on. */
    static void put(StreamFilters x, int buffer, String text) {
        x.clear(buffer);
        for (int i = 0; i < text.length(); i += 8) {
            String part = text.substring(i, Math.min(text.length(), i + 8));
            due("type(" + buffer + ", '" + part + "')", x.type(buffer, bytes(part)), i + part.length());
        }
    }

    static int read(StreamFilters x, int to, String text, boolean bases) {
        put(x, PATTERN, text);
        return x.read(to, bases);
    }

    static void make(StreamFilters x, int to, String text, boolean bases) {
        if (read(x, to, text, bases) < 0) {
            due("read of " + text, x.fault(), -2);
        }
    }

    /** The filter is JOINED of 24 TEXT FILTERS, each read from the PATTERN of now. */
    static void makeTwentyFourLeaves(StreamFilters x, int to) {
        x.read(to, false);
        x.join(to, to, to);
        x.join(to, to, to);
        x.join(to, to, to);
        x.join(9, to, to);
        x.join(to, to, 9);
        due("LEAVES", x.filter(to, 1), 24);
        x.drop(9);
    }

    static int askClass(StreamFilters x, int filter, String name) {
        put(x, NAME, name);
        return x.ask(filter, 1, 0, 0);
    }

    static void bufferIs(StreamFilters x, int buffer, String text) {
        for (int i = 0; i < text.length(); i++) {
            due("sign(" + buffer + ", " + i + ") of " + text, x.sign(buffer, i), text.charAt(i));
        }
        due("sign(" + buffer + ", " + text.length() + ") of " + text, x.sign(buffer, text.length()), -1);
    }
}
