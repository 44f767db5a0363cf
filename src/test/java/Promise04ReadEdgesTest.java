/** Promise 4, the edges of read and of the texts that it reads. */
public final class Promise04ReadEdgesTest {
    private static final String[] LIMITS = {"maxdepth", "maxrefs", "maxbytes", "maxarray"};

    public static void main(String[] args) {
        placesAreTen();
        emptyPiecesCountForNothing();
        limitsHaveOneToNineDigits();
        limitsHaveTheirNames();
        limitsEndAtTheFirstEqualsSign();
        laterLimitsCount();
        onlyOneMarkIsTakenOff();
        modulesHaveASign();
        allBelowHasTwoSigns();
        packagesAreNotEmpty();
        beginningsMayBeEmpty();
        namesAreNotEmpty();
        badChangesNothing();
        placesAreTestedBeforeTheText();
        isInThePlaceOfAnyBefore();
        nothingStaysOfTheTextBefore();
        answersHowManyPatterns();
        looksAtBasesOrNot();
        Checks.end();
    }

    private static void isBad(String text) {
        Unchanged.by("read of BAD '" + text + "'", x -> Checks.put(x, Checks.PATTERN, text), x -> x.read(0, false), -2);
    }

    /** The text has one class pattern, of the shape. */
    private static void isPattern(String text, int says, int shape) {
        StreamFilters x = new StreamFilters();
        Checks.due("read of '" + text + "'", Checks.read(x, 0, text, false), 1);
        Checks.due("what '" + text + "' says", x.pattern(0, 0, false), says);
        Checks.due("the shape of '" + text + "'", x.pattern(0, 0, true), shape);
    }

    private static void isLimit(String text, int which, int number) {
        StreamFilters x = new StreamFilters();
        Checks.due("read of '" + text + "'", Checks.read(x, 0, text, false), 0);
        for (int limit = 0; limit < 4; limit++) {
            Checks.due("limit " + limit + " of '" + text + "'", x.filter(0, 4 + limit), limit == which ? number : -2);
        }
    }

    private static void placesAreTen() {
        Checks.sentence("to 0 .. 9");
        for (int to : new int[] {-1, 10, Integer.MIN_VALUE, Integer.MAX_VALUE}) {
            Unchanged.by("read(" + to + ")", x -> x.read(to, true), -1);
        }
        StreamFilters x = new StreamFilters();
        for (int to = 0; to < 10; to++) {
            Checks.due("read(" + to + ")", x.read(to, true), 0);
            Checks.due("filter(" + to + ", 0)", x.filter(to, 0), 1);
        }
    }

    private static void emptyPiecesCountForNothing() {
        Checks.sentence("the text is cut at each ';' into pieces; empty ones count for nothing");
        String[] none = {"", ";", ";;", ";".repeat(90)};
        String[] one = {"a", ";a", "a;", ";;a;;", ";".repeat(89) + "a", "a" + ";".repeat(89)};
        for (String text : none) {
            Checks.due("read of '" + text + "'", Checks.read(new StreamFilters(), 0, text, true), 0);
        }
        for (String text : one) {
            Checks.due("read of '" + text + "'", Checks.read(new StreamFilters(), 0, text, true), 1);
        }
    }

    private static void limitsHaveOneToNineDigits() {
        Checks.sentence("and what stands behind it 1 to 9 digits, the number .. else the text is BAD");
        for (int which = 0; which < 4; which++) {
            String name = LIMITS[which] + "=";
            isBad(name);
            isLimit(name + "0", which, 0);
            isLimit(name + "9", which, 9);
            isLimit(name + "10", which, 10);
            isLimit(name + "999999999", which, 999_999_999);
            isLimit(name + "000000000", which, 0);
            isLimit(name + "000000001", which, 1);
            isLimit(name + "123456789", which, 123_456_789);
            isBad(name + "1234567890");
            isBad(name + "0000000000");
            isBad(name + "4294967297");
            isBad(name + "1".repeat(70));
            for (String wrong : new String[] {"/", ":", "-1", "+1", "1-", "1.", "a", "1a", "a1", "12x45", "*", "!1"}) {
                isBad(name + wrong);
            }
        }
    }

    private static void limitsHaveTheirNames() {
        Checks.sentence("what stands before the first '=' is maxdepth, maxrefs, maxbytes or maxarray .. else the text is BAD");
        for (String name : LIMITS) {
            isBad(name.substring(1) + "=1");
            isBad(name.substring(0, name.length() - 1) + "=1");
            isBad(name + "s=1");
            isBad("a" + name + "=1");
            isBad("!" + name + "=1");
            isBad("m/" + name + "=1");
            isBad(name.toUpperCase() + "=1");
            isBad("M" + name.substring(1) + "=1");
            isPattern(name, 1, 0);
        }
        isBad("=");
        isBad("=1");
        isBad("max=1");
        isBad("a=1");
        isBad("*=1");
    }

    private static void limitsEndAtTheFirstEqualsSign() {
        Checks.sentence("A piece with '=' in it is a limit");
        isBad("a=b");
        isBad("maxdepth==1");
        isBad("maxdepth=1=");
        isBad("maxdepth=1=1");
        isBad("a.*;b=");
        isBad("maxdepth=maxdepth=1");
    }

    private static void laterLimitsCount() {
        Checks.sentence("a later limit of a name counts instead of an earlier one");
        for (int which = 0; which < 4; which++) {
            String name = LIMITS[which];
            isLimit(name + "=9;" + name + "=1", which, 1);
            isLimit(name + "=1;" + name + "=9", which, 9);
            isLimit(name + "=1;;" + name + "=999999999;" + name + "=0", which, 0);
        }
        StreamFilters x = new StreamFilters();
        Checks.make(x, 0, "maxdepth=1;maxrefs=2;a;maxdepth=3;maxbytes=4;maxarray=5;maxbytes=6", false);
        int[] due = {3, 2, 6, 5};
        for (int limit = 0; limit < 4; limit++) {
            Checks.due("limit " + limit, x.filter(0, 4 + limit), due[limit]);
        }
    }

    private static void onlyOneMarkIsTakenOff() {
        Checks.sentence("it may begin with '!', then it REJECTS, else it ALLOWS");
        isPattern("a", 1, 0);
        isPattern("!a", 2, 0);
        isPattern("!!", 2, 0);
        isPattern("!!a", 2, 0);
        isPattern("a!", 1, 0);
        isPattern("!*", 2, 3);
        isPattern("m/!a", 1, 10);
        isPattern("!!/a", 2, 10);
    }

    private static void modulesHaveASign() {
        Checks.sentence("the signs before the first one are a module's name, at least one, else the text is BAD");
        for (String text : new String[] {"/", "//", "/a", "//a", "/*", "/a.*", "/a.**", "!/", "!/a", "!//a", "/a/b"}) {
            isBad(text);
        }
        isPattern("m/a", 1, 10);
        isPattern("!m/a", 2, 10);
        isPattern("m//", 1, 10);
        isPattern("m//a", 1, 10);
        isPattern("m/a/b", 1, 10);
        isPattern("./a", 1, 10);
        isPattern("*/a", 1, 10);
        isPattern("a.*/b", 1, 10);
        isPattern("a.**/b.*", 1, 11);
    }

    private static void allBelowHasTwoSigns() {
        Checks.sentence("the signs of q without the two '*' must be at least 2, else BAD");
        for (String before : new String[] {"", "!", "m/", "!m/"}) {
            int says = before.startsWith("!") ? 2 : 1;
            int shape = before.endsWith("/") ? 12 : 2;
            isBad(before + ".**");
            isPattern(before + "a.**", says, shape);
            isPattern(before + "..**", says, shape);
            isPattern(before + "*.**", says, shape);
            isPattern(before + "a.b.**", says, shape);
            isPattern(before + ".a.**", says, shape);
        }
        isPattern("a".repeat(87) + ".**", 1, 2);
    }

    private static void packagesAreNotEmpty() {
        Checks.sentence("q without these two must not be empty, else BAD");
        for (String before : new String[] {"", "!", "m/", "!m/"}) {
            int says = before.startsWith("!") ? 2 : 1;
            int shape = before.endsWith("/") ? 11 : 1;
            isBad(before + ".*");
            isPattern(before + "a.*", says, shape);
            isPattern(before + "..*", says, shape);
            isPattern(before + "*.*", says, shape);
            isPattern(before + "**.*", says, shape);
            isPattern(before + ".*.*", says, shape);
        }
        isPattern("a".repeat(88) + ".*", 1, 1);
    }

    private static void beginningsMayBeEmpty() {
        Checks.sentence("q ends with '*' else");
        for (String before : new String[] {"", "!", "m/", "!m/"}) {
            int says = before.startsWith("!") ? 2 : 1;
            int shape = before.endsWith("/") ? 13 : 3;
            for (String q : new String[] {"*", "a*", "**", "***", "a**", "a.***", ".a*", ".***"}) {
                isPattern(before + q, says, shape);
            }
        }
        isPattern("a".repeat(89) + "*", 1, 3);
    }

    private static void namesAreNotEmpty() {
        Checks.sentence("q must not be empty, else BAD");
        isBad("!");
        isBad("m/");
        isBad("!m/");
        isBad("a;!;b");
        for (String q : new String[] {"a", ".", "..", "a.", ".a", "*a", "*.", ".*a", ".**a", "a*.b"}) {
            isPattern(q, 1, 0);
            isPattern("!m/" + q, 2, 10);
        }
        isPattern("a".repeat(90), 1, 0);
    }

    private static void badChangesNothing() {
        Checks.sentence("BAD: see fault");
        for (String text : new String[] {"!", "a;b;!", "maxdepth=9;a;=", "!;a", "maxdepth=1;maxdepth=", "a;.*;b"}) {
            for (int to = 0; to < 10; to++) {
                int place = to;
                Unchanged.by("read of BAD '" + text + "' to " + to, x -> Checks.put(x, Checks.PATTERN, text),
                        x -> x.read(place, true), -2);
            }
        }
    }

    private static void placesAreTestedBeforeTheText() {
        Checks.sentence("Every call tests its numbers first .. then what its comment says");
        Unchanged.by("read(-1) of a BAD text", x -> Checks.put(x, Checks.PATTERN, "="), x -> x.read(-1, true), -1);
        Unchanged.by("read(10) of a BAD text", x -> Checks.put(x, Checks.PATTERN, "="), x -> x.read(10, true), -1);
    }

    private static void isInThePlaceOfAnyBefore() {
        Checks.sentence("Else it is in the place of any before");
        StreamFilters x = new StreamFilters();
        Checks.make(x, 0, "a;maxdepth=1;maxrefs=2;maxbytes=3;maxarray=4", true);
        Checks.due("read of nothing", Checks.read(x, 0, "", false), 0);
        int[] due = {1, 1, 1, 0, -2, -2, -2, -2, 0};
        for (int what = 0; what < 9; what++) {
            Checks.due("filter(0, " + what + ")", x.filter(0, what), due[what]);
        }
        Checks.due("its pattern of before", x.pattern(0, 0, false), -1);
        x.join(1, 0, 0);
        x.strict(2, 1, true);
        x.otherwise(3, 2, 1);
        x.only(4, 3);
        for (int to = 1; to < 5; to++) {
            Checks.due("read in the place of kind " + (to + 1), x.read(to, false), 0);
            Checks.due("its kind", x.filter(to, 0), 1);
            Checks.due("its HIGH", x.filter(to, 2), 1);
        }
    }

    private static void nothingStaysOfTheTextBefore() {
        Checks.sentence("A TEXT FILTER is read from PATTERN");
        String[] before = {"!long.module.name/a.b.c.**", "maxarray=123456789;maxdepth=7", "a;".repeat(45), ";".repeat(89) + "!",
            "!m/", "maxdepth=1=", "*", ""};
        for (String text : before) {
            StreamFilters x = new StreamFilters();
            Checks.read(x, 0, text, true);
            Checks.due("read of 'b' behind '" + text + "'", Checks.read(x, 1, "b", false), 1);
            Checks.due("what 'b' says", x.pattern(1, 0, false), 1);
            Checks.due("the shape of 'b'", x.pattern(1, 0, true), 0);
            for (int limit = 4; limit < 8; limit++) {
                Checks.due("filter(1, " + limit + ") behind '" + text + "'", x.filter(1, limit), -2);
            }
            Checks.due("ask of b", Checks.askClass(x, 1, "b"), 1);
            Checks.due("ask of another", Checks.askClass(x, 1, "bb"), 0);
        }
    }

    private static void answersHowManyPatterns() {
        Checks.sentence("Answers how many class patterns it has");
        for (int count = 0; count <= 45; count++) {
            StreamFilters x = new StreamFilters();
            Checks.due("read of " + count, Checks.read(x, 0, "a;".repeat(count), true), count);
            Checks.due("filter(0, 3)", x.filter(0, 3), count);
        }
        StreamFilters x = new StreamFilters();
        Checks.due("limits are none", Checks.read(x, 0, "maxdepth=1;a;maxrefs=1;b;;maxarray=3", true), 2);
        Checks.due("the same twice are two", Checks.read(x, 0, "a;a", true), 2);
    }

    private static void looksAtBasesOrNot() {
        Checks.sentence("bases: whether it looks at BASES");
        StreamFilters x = new StreamFilters();
        Checks.put(x, Checks.PATTERN, "*");
        x.read(0, true);
        x.read(1, false);
        Checks.due("filter(0, 8)", x.filter(0, 8), 1);
        Checks.due("filter(1, 8)", x.filter(1, 8), 0);
        Checks.due("ask(0) of an array", x.ask(0, 1, 1, 0), 1);
        Checks.due("ask(1) of an array", x.ask(1, 1, 1, 0), 0);
    }
}
