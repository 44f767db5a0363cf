/** Promise 5: which texts are BAD, and where. */
public final class Promise05FaultTest {
    public static void main(String[] args) {
        String[] good = {"", ";", "a", "!a", "!!", "!*", "*", "**", "***", "a*", "a.*", "a.**", "..*", "..**", ".a.**",
            "m/a", "m/*", "m/a.*", "m/a.**", "m//", "m//*", "!m/a", "!!/a", "m/!", ".", "a.", "*a", ".*a", ".**a",
            "maxdepth=0", "maxrefs=1", "maxbytes=12", "maxarray=123456789", "maxdepth", "maxdepth/a", "*.*", "*.**",
            "m/**", "./a", "*/a", ".*/a", "!.", "m/..*", "m/..**", "*.", "/".repeat(0) + "a/b/c"};
        for (String text : good) {
            faultIs(text, -2);
        }
        String[] bad = {"!", "/", "/a", "!/a", "m/", "!m/", ".*", ".**", "!.*", "!.**", "m/.*", "m/.**", "//", "//a", "/*",
            "=", "=1", "maxdepth=", "maxdepth=a", "maxdepth=1a", "maxdepth=-1", "maxdepth=+1", "maxdepth=1.",
            "maxdepth=1234567890", "maxdepth=0000000000", "maxdepth==1", "maxdepth=1=", "maxdepth=1=2",
            "Maxdepth=1", "MAXREFS=1", "maxdept=1", "maxdepths=1", "amaxdepth=1", "max=1", "depth=1", "!maxdepth=1",
            "m/maxdepth=1", "maxref=1", "maxrefss=1", "maxbyte=1", "maxarrays=1", "a=b", "a.*=1", "maxdepth=:",
            "maxdepth=/", "maxdepth=1!"};
        for (String text : bad) {
            faultIs(text, 0);
            faultIs(text + ";", 0);
            faultIs(text + ";.*;=", 0);
            faultIs(";;" + text, 2);
            faultIs("a;" + text + ";b", 1);
            faultIs("maxarray=1;;*;" + text, 3);
        }
        faultIs(";".repeat(89) + "!", 89);
        faultIs("!" + ";".repeat(89), 0);
        seesTheTextOfNow();
        Checks.end();
    }

    private static void faultIs(String text, int due) {
        StreamFilters x = new StreamFilters();
        Checks.put(x, Checks.PATTERN, text);
        Checks.due("fault() of '" + text + "'", x.fault(), due);
        boolean isBad = x.read(0, false) == StreamFilters.BAD;
        Checks.due("read of '" + text + "' is BAD", isBad ? 1 : 0, due == -2 ? 0 : 1);
        Checks.due("fault() of '" + text + "' behind read", x.fault(), due);
    }

    private static void seesTheTextOfNow() {
        StreamFilters x = new StreamFilters();
        Checks.due("BAD", Checks.read(x, 0, "a;!", false), -2);
        x.type(0, 'b');
        Checks.due("fault() of the mended text", x.fault(), -2);
        x.type(0, Checks.bytes(";=;"));
        Checks.due("fault() without read", x.fault(), 2);
        Checks.due("nothing is made by fault()", x.filter(0, 0), 0);
        x.clear(0);
        Checks.due("fault() of nothing", x.fault(), -2);
    }
}
