/** Promise 10. */
public final class Promise10DropTest {
    public static void main(String[] args) {
        StreamFilters x = new StreamFilters();
        Checks.due("drop(0) of none", x.drop(0), -1);
        Checks.due("drop(-1)", x.drop(-1), -1);
        Checks.due("drop(10)", x.drop(10), -1);
        Checks.make(x, 0, "a", false);
        Checks.make(x, 1, "!b", false);
        x.join(2, 0, 1);
        x.strict(9, 2, false);
        Checks.due("drop(0)", x.drop(0), 0);
        Checks.due("filter(0, 0)", x.filter(0, 0), 0);
        Checks.due("filter(0, 1)", x.filter(0, 1), -1);
        Checks.due("ask(0)", x.ask(0, 0, 0, 0), -1);
        Checks.due("pattern(0, 0)", x.pattern(0, 0, false), -1);
        Checks.due("strict over it", x.strict(3, 0, false), -1);
        Checks.due("drop(0) again", x.drop(0), -1);
        Checks.due("others stay", x.filter(1, 0), 1);
        Checks.due("drop(2)", x.drop(2), 0);
        Checks.due("drop(1)", x.drop(1), 0);
        Checks.due("what was made of them stays: a", Checks.askClass(x, 9, "a"), 1);
        Checks.due("what was made of them stays: b", Checks.askClass(x, 9, "b"), 2);
        Checks.due("its LEAVES", x.filter(9, 1), 2);
        Checks.due("its HIGH", x.filter(9, 2), 3);
        Checks.due("drop(9)", x.drop(9), 0);
        Checks.due("the latest ask is not forgotten", x.trace(1), 2);
        Checks.due("read in a free place", x.read(9, false), 1);
        Checks.end();
    }
}
