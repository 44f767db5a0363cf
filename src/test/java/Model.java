import java.util.ArrayList;
import java.util.List;
import java.util.regex.Matcher;
import java.util.regex.Pattern;

/**
 * The document told a second time, with the Java library and without a care for room: what ModelTest
 * compares the program with.
 */
final class Model {
    private static final Pattern LIMIT = Pattern.compile("(maxdepth|maxrefs|maxbytes|maxarray)=([0-9]{1,9})");
    private static final List<String> LIMIT_NAMES = List.of("maxdepth", "maxrefs", "maxbytes", "maxarray");
    private static final int[] MOST = {90, 40, 12};

    private final String[] buffers = {"", "", ""};
    private final Node[] filters = new Node[10];
    private final int[] now = new int[3];
    private int[] trace = {0, 0, -2};
    private int sort;
    private int dimensions;
    private int length;

    /** A class pattern: a module or null, the shape, what it says, and the expression of its names. */
    private record Rule(String module, int shape, int says, Pattern names) {
    }

    private record Node(int kind, List<Rule> rules, int[] limits, boolean flag, int given, String start,
            Node one, Node other) {
        int leaves() {
            return kind == 1 ? 1 : one.leaves() + (other == null ? 0 : other.leaves());
        }

        int high() {
            return kind == 1 ? 1 : 1 + Math.max(one.high(), other == null ? 0 : other.high());
        }
    }

    int type(int buffer, long signs) {
        if (buffer < 0 || buffer > 2) {
            return -1;
        }
        StringBuilder more = new StringBuilder();
        for (byte code : java.nio.ByteBuffer.allocate(8).putLong(signs).array()) {
            if (code != 0) {
                more.append((char) (code & 255));
            }
        }
        if (!more.toString().matches("[!-~]*")) {
            return -1;
        }
        if (buffers[buffer].length() + more.length() > MOST[buffer]) {
            return -3;
        }
        buffers[buffer] += more;
        return buffers[buffer].length();
    }

    int clear(int buffer) {
        if (buffer < 0 || buffer > 2) {
            return -1;
        }
        int was = buffers[buffer].length();
        buffers[buffer] = "";
        return was;
    }

    int read(int to, boolean bases) {
        if (to < 0 || to > 9) {
            return -1;
        }
        if (fault() != -2) {
            return -2;
        }
        List<Rule> rules = new ArrayList<>();
        int[] limits = {-2, -2, -2, -2};
        for (String piece : buffers[0].split(";", -1)) {
            Matcher limit = LIMIT.matcher(piece);
            if (limit.matches()) {
                limits[LIMIT_NAMES.indexOf(limit.group(1))] = Integer.parseInt(limit.group(2));
            } else if (!piece.isEmpty()) {
                rules.add(rule(piece));
            }
        }
        filters[to] = new Node(1, rules, limits, bases, 0, null, null, null);
        return rules.size();
    }

    int fault() {
        String[] pieces = buffers[0].split(";", -1);
        for (int k = 0; k < pieces.length; k++) {
            String piece = pieces[k];
            boolean good = piece.isEmpty()
                    || (piece.contains("=") ? LIMIT.matcher(piece).matches() : rule(piece) != null);
            if (!good) {
                return k;
            }
        }
        return -2;
    }

    /** Null if the piece is BAD. */
    private static Rule rule(String piece) {
        int says = piece.startsWith("!") ? 2 : 1;
        String rest = piece.substring(says - 1);
        String module = null;
        if (rest.contains("/")) {
            module = rest.substring(0, rest.indexOf('/'));
            rest = rest.substring(rest.indexOf('/') + 1);
            if (module.isEmpty()) {
                return null;
            }
        }
        if (rest.endsWith(".**")) {
            String start = rest.substring(0, rest.length() - 2);
            return start.length() < 2 ? null : new Rule(module, 2, says, Pattern.compile(Pattern.quote(start) + ".*"));
        }
        if (rest.endsWith(".*")) {
            String start = rest.substring(0, rest.length() - 2);
            return start.isEmpty() ? null
                    : new Rule(module, 1, says, Pattern.compile(Pattern.quote(start) + "\\.[^.]*"));
        }
        if (rest.endsWith("*")) {
            String start = rest.substring(0, rest.length() - 1);
            return new Rule(module, 3, says, Pattern.compile(Pattern.quote(start) + ".*"));
        }
        return rest.isEmpty() ? null : new Rule(module, 0, says, Pattern.compile(Pattern.quote(rest)));
    }

    private Node at(int filter) {
        return filter < 0 || filter > 9 ? null : filters[filter];
    }

    private int set(int to, Node made) {
        if (made.leaves() > 24 || made.high() > 8) {
            return -3;
        }
        filters[to] = made;
        return 0;
    }

    int join(int to, int one, int other) {
        boolean wrong = to < 0 || to > 9 || at(one) == null || at(other) == null;
        return wrong ? -1 : set(to, new Node(2, null, null, false, 0, null, at(one), at(other)));
    }

    int strict(int to, int filter, boolean all) {
        boolean wrong = to < 0 || to > 9 || at(filter) == null;
        return wrong ? -1 : set(to, new Node(3, null, null, all, 0, null, at(filter), null));
    }

    int otherwise(int to, int filter, int answer) {
        boolean wrong = to < 0 || to > 9 || at(filter) == null || answer < 0 || answer > 2;
        return wrong ? -1 : set(to, new Node(4, null, null, false, answer, null, at(filter), null));
    }

    int only(int to, int filter) {
        boolean wrong = to < 0 || to > 9 || at(filter) == null;
        return wrong ? -1 : set(to, new Node(5, null, null, false, 0, buffers[0], at(filter), null));
    }

    int drop(int filter) {
        if (at(filter) == null) {
            return -1;
        }
        filters[filter] = null;
        return 0;
    }

    int stream(int depth, int refs, int bytes) {
        if (depth < 0 || refs < 0 || bytes < 0) {
            return -1;
        }
        now[0] = depth;
        now[1] = refs;
        now[2] = bytes;
        return 0;
    }

    int ask(int filter, int newSort, int newDimensions, int newLength) {
        boolean wrong = at(filter) == null || newSort < 0 || newSort > 2 || newDimensions < 0 || newDimensions > 3
                || newSort == 0 && newDimensions != 0 || newSort == 2 && newDimensions == 0;
        if (wrong) {
            return -1;
        }
        sort = newSort;
        dimensions = newDimensions;
        length = newLength;
        trace = new int[] {0, 0, -2};
        return answer(at(filter));
    }

    private int answer(Node node) {
        switch (node.kind) {
            case 1:
                return answerText(node);
            case 2:
                int one = answer(node.one);
                int other = one == 2 ? 0 : answer(node.other);
                return Math.max(one, other);
            case 3:
                int strict = answer(node.one);
                return strict == 0 && (sort == 1 || sort == 0 && node.flag) ? 2 : strict;
            case 4:
                int found = answer(node.one);
                return found == 0 ? node.given : found;
            default:
                return sort == 1 && buffers[1].startsWith(node.start) ? answer(node.one) : 0;
        }
    }

    private int answerText(Node node) {
        trace[1]++;
        for (int i = 0; i < 3; i++) {
            if (node.limits[i] >= 0 && now[i] > node.limits[i]) {
                return 2;
            }
        }
        if (dimensions > 0 && node.limits[3] >= 0 && length > node.limits[3]) {
            return 2;
        }
        if (sort != 1 || dimensions > 0 && !node.flag) {
            return 0;
        }
        for (int k = 0; k < node.rules.size(); k++) {
            Rule rule = node.rules.get(k);
            trace[0]++;
            boolean here = rule.module == null || rule.module.equals(buffers[2]);
            if (here && rule.names.matcher(buffers[1]).matches()) {
                trace[2] = k;
                return rule.says;
            }
        }
        return 0;
    }

    int trace(int what) {
        return what < 0 || what > 2 ? -1 : trace[what];
    }

    int filter(int filter, int what) {
        if (filter < 0 || filter > 9 || what < 0 || what > 8) {
            return -1;
        }
        Node node = filters[filter];
        if (node == null) {
            return what == 0 ? 0 : -1;
        }
        if (what < 3) {
            return new int[] {node.kind, node.leaves(), node.high()}[what];
        }
        if (node.kind != 1) {
            return -1;
        }
        return what == 3 ? node.rules.size() : what == 8 ? (node.flag ? 1 : 0) : node.limits[what - 4];
    }

    int pattern(int filter, int k, boolean shape) {
        Node node = at(filter);
        if (node == null || node.kind != 1 || k < 0 || k >= node.rules.size()) {
            return -1;
        }
        Rule rule = node.rules.get(k);
        return shape ? rule.shape + (rule.module == null ? 0 : 10) : rule.says;
    }

    int sign(int buffer, int i) {
        boolean wrong = buffer < 0 || buffer > 2 || i < 0 || i >= buffers[buffer].length();
        return wrong ? -1 : buffers[buffer].charAt(i);
    }
}
