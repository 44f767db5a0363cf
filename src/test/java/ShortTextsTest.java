import java.util.ArrayList;
import java.util.List;

/** Promises 4, 5, 12, 13 and 15: every short text out of the signs that mean something, against Model. */
public final class ShortTextsTest {
    private static final String TEXT_SIGNS = "a.*/!;=";
    private static final int MOST_TEXT_SIGNS = 5;
    private static final List<String> NAMES = texts("a.*", 3);
    private static final String[] MODULES = {"", "a", "."};

    public static void main(String[] args) {
        for (String text : texts(TEXT_SIGNS, MOST_TEXT_SIGNS)) {
            check(text);
        }
        Checks.end();
    }

    /** Every text of at most so many of the signs. */
    private static List<String> texts(String signs, int most) {
        List<String> all = new ArrayList<>(List.of(""));
        int from = 0;
        for (int length = 1; length <= most; length++) {
            int end = all.size();
            for (int i = from; i < end; i++) {
                for (char sign : signs.toCharArray()) {
                    all.add(all.get(i) + sign);
                }
            }
            from = end;
        }
        return all;
    }

    private static void check(String text) {
        StreamFilters program = new StreamFilters();
        Model model = new Model();
        long signs = Checks.bytes(text);
        Checks.due("type of " + text, program.type(0, signs), model.type(0, signs));
        Checks.due("fault of " + text, program.fault(), model.fault());
        int patterns = model.read(0, true);
        Checks.due("read of " + text, program.read(0, true), patterns);
        for (int k = 0; k <= patterns; k++) {
            Checks.due("pattern " + k + " of " + text, program.pattern(0, k, false), model.pattern(0, k, false));
            Checks.due("shape " + k + " of " + text, program.pattern(0, k, true), model.pattern(0, k, true));
        }
        if (patterns > 0) {
            for (String module : MODULES) {
                askAll(program, model, text, module);
            }
        }
    }

    private static void askAll(StreamFilters program, Model model, String text, String module) {
        program.clear(2);
        model.clear(2);
        program.type(2, Checks.bytes(module));
        model.type(2, Checks.bytes(module));
        for (String name : NAMES) {
            program.clear(1);
            model.clear(1);
            program.type(1, Checks.bytes(name));
            model.type(1, Checks.bytes(name));
            String asked = text + " asked for " + name + " in " + module;
            Checks.due(asked, program.ask(0, 1, 0, 0), model.ask(0, 1, 0, 0));
            Checks.due(asked + ", compared", program.trace(0), model.trace(0));
        }
    }
}
