/** All promises: many runs of calls, drawn the same way each time, against the second telling in Model. */
public final class ModelTest {
    private static final int RUNS = 4000;
    /** The document tells nothing of later calls. */
    private static final int CALLS = 512;
    private static final int MOST_CALLS_OF_A_STEP = 13;
    private static final String[] PARTS = {"a", "b", ".", "*", ";", "a", "b", ".", ";", ".*;", ".**;", "*;", "!", "m/", "/",
        "a.*;", "!b*;", "a*;", "m/a;", "m/b*;", "=", "maxdepth", "=1;", "=2;", "maxrefs", "maxbytes", "maxarray", "0", "9", ";maxarray=3;"};

    private static final int[] FAR = {Integer.MIN_VALUE, Integer.MIN_VALUE + 1, -3, -2, 255, 256, Integer.MAX_VALUE - 1,
        Integer.MAX_VALUE};

    private long seed;
    private StreamFilters program;
    private Model model;
    private int made;
    private final int[] answers = new int[3];

    public static void main(String[] args) {
        ModelTest test = new ModelTest();
        for (int run = 0; run < RUNS; run++) {
            test.run(run);
        }
        for (int answer = 0; answer < 3; answer++) {
            boolean often = test.answers[answer] > RUNS;
            Checks.due("answer " + answer + " came often: " + test.answers[answer], often ? 1 : 0, 1);
        }
        Checks.end();
    }

    private void run(int run) {
        seed = run * 7919L + 17;
        program = new StreamFilters();
        model = new Model();
        made = 0;
        while (made + MOST_CALLS_OF_A_STEP <= CALLS) {
            step("run " + run + ", call " + made + ": ");
        }
    }

    private void same(String call, int got, int want) {
        made++;
        Checks.due(call, got, want);
    }

    private int draw(int below) {
        seed = seed * 6364136223846793005L + 1442695040888963407L;
        return (int) ((seed >>> 33) % below);
    }

    private boolean coin() {
        return draw(2) == 0;
    }

    /** Mostly 0 to most, at times just outside, and now and then far outside. */
    private int near(int most) {
        switch (draw(100)) {
            case 0, 1:
                return -1;
            case 2, 3:
                return most + 1;
            case 4:
                return FAR[draw(FAR.length)];
            default:
                return draw(most + 1);
        }
    }

    private long text(int buffer) {
        if (draw(40) == 0) {
            return seed;
        }
        String signs = "";
        int parts = buffer == 0 ? 1 + draw(5) : 1 + draw(2);
        for (int i = 0; i < parts; i++) {
            signs += buffer == 0 ? PARTS[draw(PARTS.length)] : buffer == 1 ? "" + "ab.*".charAt(draw(4)) : "m";
        }
        return Checks.bytes(signs.substring(0, Math.min(8, signs.length())));
    }

    private void step(String where) {
        switch (draw(20)) {
            case 0, 1, 2 -> {
                int buffer = near(2);
                // Short names are matched more often than long ones.
                if (buffer > 0 && coin()) {
                    same(where + "clear(" + buffer + ")", program.clear(buffer), model.clear(buffer));
                }
                long signs = text(buffer);
                same(where + "type(" + buffer + ", " + signs + ")",
                        program.type(buffer, signs), model.type(buffer, signs));
            }
            case 3 -> {
                int buffer = near(2);
                same(where + "clear(" + buffer + ")", program.clear(buffer), model.clear(buffer));
            }
            case 4, 5, 6 -> stepRead(where);
            case 7, 8, 9, 10 -> stepMake(where);
            case 11 -> {
                int filter = near(9);
                boolean drops = draw(3) == 0;
                same(where + "drop(" + filter + ") or none", drops ? program.drop(filter) : 0,
                        drops ? model.drop(filter) : 0);
            }
            case 12 -> {
                int depth = near(3);
                int refs = near(3);
                int bytes = near(3);
                same(where + "stream(" + depth + ", " + refs + ", " + bytes + ")",
                        program.stream(depth, refs, bytes), model.stream(depth, refs, bytes));
            }
            case 13 -> stepTell(where);
            default -> stepAsk(where);
        }
    }

    private void stepRead(String where) {
        same(where + "fault()", program.fault(), model.fault());
        int to = near(9);
        boolean bases = coin();
        same(where + "read(" + to + ", " + bases + ")", program.read(to, bases), model.read(to, bases));
        if (model.fault() != -2) {
            same(where + "clear(0)", program.clear(0), model.clear(0));
        }
    }

    private void stepMake(String where) {
        int to = near(9);
        int one = near(9);
        int other = near(9);
        int given = near(2);
        boolean all = coin();
        String of = "(" + to + ", " + one + ", ..)";
        switch (draw(5)) {
            case 0, 1 -> same(where + "join" + of + other, program.join(to, one, other), model.join(to, one, other));
            case 2 -> same(where + "strict" + of + all, program.strict(to, one, all), model.strict(to, one, all));
            case 3 -> same(where + "otherwise" + of + given,
                    program.otherwise(to, one, given), model.otherwise(to, one, given));
            default -> same(where + "only" + of, program.only(to, one), model.only(to, one));
        }
    }

    private void stepAsk(String where) {
        int filter = near(9);
        int sort = draw(3) == 0 ? near(2) : 1;
        int dimensions = sort == 0 ? draw(12) / 11 : coin() ? 0 : near(3);
        int length = draw(30) == 0 ? FAR[draw(FAR.length)] : draw(8) - 2;
        int due = model.ask(filter, sort, dimensions, length);
        same(where + "ask(" + filter + ", " + sort + ", " + dimensions + ", " + length + ")",
                program.ask(filter, sort, dimensions, length), due);
        if (due >= 0) {
            answers[due]++;
        }
        for (int what = -1; what < 4; what++) {
            same(where + "trace(" + what + ")", program.trace(what), model.trace(what));
        }
    }

    private void stepTell(String where) {
        int filter = near(9);
        for (int what = -1; what < 10; what++) {
            same(where + "filter(" + filter + ", " + what + ")",
                    program.filter(filter, what), model.filter(filter, what));
        }
        int k = near(4);
        boolean shape = coin();
        same(where + "pattern(" + filter + ", " + k + ", " + shape + ")",
                program.pattern(filter, k, shape), model.pattern(filter, k, shape));
        int buffer = near(2);
        int i = near(90);
        same(where + "sign(" + buffer + ", " + i + ")", program.sign(buffer, i), model.sign(buffer, i));
    }
}
