/**
 * Filters for what a stream brings: patterns are read from a text, filters are joined, and each
 * class, array and count that a reader comes to is allowed, rejected or left undecided.
 */
public final class StreamFilters {
    public static final int UNDECIDED = 0;
    public static final int ALLOWED = 1;
    public static final int REJECTED = 2;
    public static final int DONE = 0;
    public static final int REFUSED = -1;
    public static final int BAD = -2;
    public static final int FULL = -3;

    private static final int NONE = -2;

    private static final int MOST_PATTERN_SIGNS = 90;
    private static final int MOST_NAME_SIGNS = 40;
    private static final int MOST_MODULE_SIGNS = 12;
    private static final int LOWEST_SIGN = 33;
    private static final int HIGHEST_SIGN = 126;

    private static final int PLACES = 10;
    private static final int MOST_LEAVES = 24;
    private static final int MOST_HIGH = 8;

    private static final int KIND_NOT_THERE = 0;
    private static final int KIND_TEXT = 1;
    private static final int KIND_JOINED = 2;
    private static final int KIND_STRICT = 3;
    private static final int KIND_DEFAULT = 4;
    private static final int KIND_ONLY = 5;

    private static final int SORT_NOTHING = 0;
    private static final int SORT_CLASS = 1;
    private static final int SORT_PRIMITIVE = 2;
    private static final int MOST_DIMENSIONS = 3;

    private static final int LIMITS = 4;
    private static final int LIMIT_DEPTH = 0;
    private static final int LIMIT_REFS = 1;
    private static final int LIMIT_BYTES = 2;
    private static final int LIMIT_ARRAY = 3;
    private static final int MOST_DIGITS = 9;

    private static final int SHAPE_NAME = 0;
    private static final int SHAPE_PACKAGE = 1;
    private static final int SHAPE_ALL_BELOW = 2;
    private static final int SHAPE_BEGINNING = 3;
    private static final int SHAPE_WITH_MODULE = 10;

    private final Signs patternSigns;
    private final Question question;
    private final PieceReader reader;
    private final Filter[] filters;

    public StreamFilters() {
        patternSigns = new Signs(MOST_PATTERN_SIGNS);
        question = new Question();
        reader = new PieceReader(patternSigns);
        filters = new Filter[PLACES];
    }

    public int type(int buffer, long signs) {
        Signs typed = bufferAt(buffer);
        if (typed == null) {
            return REFUSED;
        }
        int more = countSigns(signs);
        if (more < 0) {
            return REFUSED;
        }
        if (!typed.hasRoomFor(more)) {
            return FULL;
        }
        for (int shift = 56; shift >= 0; shift -= 8) {
            int code = byteAt(signs, shift);
            if (code != 0) {
                typed.append((char) code);
            }
        }
        return typed.length();
    }

    public int clear(int buffer) {
        Signs cleared = bufferAt(buffer);
        return cleared == null ? REFUSED : cleared.takeAll();
    }

    public int read(int to, boolean bases) {
        if (!isPlace(to)) {
            return REFUSED;
        }
        if (reader.firstBroken() != NONE) {
            return BAD;
        }
        TextFilter made = reader.makeFilter(bases);
        filters[to] = made;
        return made.countPatterns();
    }

    public int fault() {
        return reader.firstBroken();
    }

    public int join(int to, int one, int other) {
        Filter first = filterAt(one);
        Filter second = filterAt(other);
        if (!isPlace(to) || first == null || second == null) {
            return REFUSED;
        }
        if (first.leaves + second.leaves > MOST_LEAVES) {
            return FULL;
        }
        if (Math.max(first.high, second.high) >= MOST_HIGH) {
            return FULL;
        }
        filters[to] = new JoinedFilter(first, second);
        return DONE;
    }

    public int strict(int to, int filter, boolean all) {
        Filter inner = filterAt(filter);
        if (!isPlace(to) || inner == null) {
            return REFUSED;
        }
        if (inner.high >= MOST_HIGH) {
            return FULL;
        }
        filters[to] = new StrictFilter(inner, all);
        return DONE;
    }

    public int otherwise(int to, int filter, int answer) {
        Filter inner = filterAt(filter);
        if (!isPlace(to) || inner == null || answer < UNDECIDED || answer > REJECTED) {
            return REFUSED;
        }
        if (inner.high >= MOST_HIGH) {
            return FULL;
        }
        filters[to] = new DefaultFilter(inner, answer);
        return DONE;
    }

    public int only(int to, int filter) {
        Filter inner = filterAt(filter);
        if (!isPlace(to) || inner == null) {
            return REFUSED;
        }
        if (inner.high >= MOST_HIGH) {
            return FULL;
        }
        filters[to] = new OnlyFilter(inner, patternSigns.copy());
        return DONE;
    }

    public int drop(int filter) {
        if (filterAt(filter) == null) {
            return REFUSED;
        }
        filters[filter] = null;
        return DONE;
    }

    public int stream(int depth, int refs, int bytes) {
        if (depth < 0 || refs < 0 || bytes < 0) {
            return REFUSED;
        }
        question.depth = depth;
        question.refs = refs;
        question.bytes = bytes;
        return DONE;
    }

    public int ask(int filter, int sort, int dimensions, int length) {
        Filter asked = filterAt(filter);
        if (asked == null || !isQuestion(sort, dimensions)) {
            return REFUSED;
        }
        question.begin(sort, dimensions, length);
        return asked.answer(question);
    }

    public int trace(int what) {
        switch (what) {
            case 0:
                return question.compared;
            case 1:
                return question.textsAsked;
            case 2:
                return question.lastMatch;
            default:
                return REFUSED;
        }
    }

    public int filter(int filter, int what) {
        if (!isPlace(filter)) {
            return REFUSED;
        }
        Filter told = filters[filter];
        if (what == 0) {
            return told == null ? KIND_NOT_THERE : told.kind;
        }
        if (told == null) {
            return REFUSED;
        }
        if (what == 1) {
            return told.leaves;
        }
        if (what == 2) {
            return told.high;
        }
        return told instanceof TextFilter text ? tellText(text, what) : REFUSED;
    }

    public int pattern(int filter, int k, boolean shape) {
        if (filterAt(filter) instanceof TextFilter text) {
            ClassPattern told = text.patternAt(k);
            if (told != null) {
                return shape ? told.fullShape() : told.verdict();
            }
        }
        return REFUSED;
    }

    public int sign(int buffer, int i) {
        Signs told = bufferAt(buffer);
        return told == null ? REFUSED : told.at(i);
    }

    private Signs bufferAt(int buffer) {
        switch (buffer) {
            case 0:
                return patternSigns;
            case 1:
                return question.name;
            case 2:
                return question.module;
            default:
                return null;
        }
    }

    private static boolean isPlace(int place) {
        return place >= 0 && place < PLACES;
    }

    private Filter filterAt(int place) {
        return isPlace(place) ? filters[place] : null;
    }

    private static int byteAt(long signs, int shift) {
        return (int) (signs >>> shift) & 255;
    }

    /** How many signs the bytes are, or REFUSED if one of them is no sign. */
    private static int countSigns(long signs) {
        int count = 0;
        for (int shift = 56; shift >= 0; shift -= 8) {
            int code = byteAt(signs, shift);
            if (code != 0) {
                if (code < LOWEST_SIGN || code > HIGHEST_SIGN) {
                    return REFUSED;
                }
                count++;
            }
        }
        return count;
    }

    private static boolean isQuestion(int sort, int dimensions) {
        if (dimensions < 0 || dimensions > MOST_DIMENSIONS) {
            return false;
        }
        switch (sort) {
            case SORT_NOTHING:
                return dimensions == 0;
            case SORT_CLASS:
                return true;
            case SORT_PRIMITIVE:
                return dimensions > 0;
            default:
                return false;
        }
    }

    private static int tellText(TextFilter text, int what) {
        switch (what) {
            case 3:
                return text.countPatterns();
            case 4:
                return text.limitAt(LIMIT_DEPTH);
            case 5:
                return text.limitAt(LIMIT_REFS);
            case 6:
                return text.limitAt(LIMIT_BYTES);
            case 7:
                return text.limitAt(LIMIT_ARRAY);
            case 8:
                return text.looksAtBases ? 1 : 0;
            default:
                return REFUSED;
        }
    }

    /** A row of signs that never grows beyond the room it was made with. */
    private static final class Signs {
        private final char[] row;
        private int length;

        Signs(int most) {
            row = new char[most];
            length = 0;
        }

        int length() {
            return length;
        }

        boolean hasRoomFor(int more) {
            return more <= row.length - length;
        }

        void append(char sign) {
            if (length < row.length) {
                row[length] = sign;
                length++;
            }
        }

        int takeAll() {
            int was = length;
            length = 0;
            return was;
        }

        /** The code of sign i, or REFUSED, which is no sign's code. */
        int at(int i) {
            return i >= 0 && i < length ? row[i] : REFUSED;
        }

        Signs copy() {
            Signs made = new Signs(length);
            for (int i = 0; i < length; i++) {
                made.append(row[i]);
            }
            return made;
        }

        /** Where the sign first stands from one place on and before another, else that other. */
        int find(char sign, int from, int end) {
            for (int i = from; i < end; i++) {
                if (at(i) == sign) {
                    return i;
                }
            }
            return end;
        }

        boolean beginsWithPart(Signs other, int from, int end) {
            if (end - from > length) {
                return false;
            }
            for (int i = from; i < end; i++) {
                if (at(i - from) != other.at(i)) {
                    return false;
                }
            }
            return true;
        }

        boolean isPart(Signs other, int from, int end) {
            return length == end - from && beginsWithPart(other, from, end);
        }

        boolean hasWord(String word, int from, int end) {
            if (word.length() != end - from) {
                return false;
            }
            for (int i = 0; i < word.length(); i++) {
                if (at(from + i) != word.charAt(i)) {
                    return false;
                }
            }
            return true;
        }
    }

    /** What a filter is asked, and what the asking met on its way. */
    private static final class Question {
        final Signs name;
        final Signs module;
        int depth;
        int refs;
        int bytes;
        int sort;
        int dimensions;
        int length;
        int compared;
        int textsAsked;
        int lastMatch;

        Question() {
            name = new Signs(MOST_NAME_SIGNS);
            module = new Signs(MOST_MODULE_SIGNS);
            lastMatch = NONE;
        }

        void begin(int newSort, int newDimensions, int newLength) {
            sort = newSort;
            dimensions = newDimensions;
            length = newLength;
            compared = 0;
            textsAsked = 0;
            lastMatch = NONE;
        }
    }

    /**
     * A filter never changes once it stands in a place: so others can be made of it by reference
     * and keep what it was. MOST_HIGH keeps the recursion of answer low.
     */
    private abstract static class Filter {
        final int kind;
        final int leaves;
        final int high;

        Filter(int kind, int leaves, int high) {
            this.kind = kind;
            this.leaves = leaves;
            this.high = high;
        }

        abstract int answer(Question asked);
    }

    private static final class TextFilter extends Filter {
        final boolean looksAtBases;
        private final int[] limits;
        private final ClassPattern[] patterns;

        TextFilter(boolean looksAtBases, int[] limits, ClassPattern[] patterns) {
            super(KIND_TEXT, 1, 1);
            this.looksAtBases = looksAtBases;
            this.limits = limits;
            this.patterns = patterns;
        }

        int countPatterns() {
            return patterns.length;
        }

        ClassPattern patternAt(int k) {
            return k >= 0 && k < patterns.length ? patterns[k] : null;
        }

        int limitAt(int which) {
            return which >= 0 && which < limits.length ? limits[which] : NONE;
        }

        int answer(Question asked) {
            asked.textsAsked++;
            if (isAbove(asked.depth, LIMIT_DEPTH)
                    || isAbove(asked.refs, LIMIT_REFS)
                    || isAbove(asked.bytes, LIMIT_BYTES)) {
                return REJECTED;
            }
            if (asked.sort == SORT_NOTHING) {
                return UNDECIDED;
            }
            if (asked.dimensions > 0) {
                if (isAbove(asked.length, LIMIT_ARRAY)) {
                    return REJECTED;
                }
                if (!looksAtBases) {
                    return UNDECIDED;
                }
            }
            return asked.sort == SORT_PRIMITIVE ? UNDECIDED : comparePatterns(asked);
        }

        private boolean isAbove(int number, int which) {
            int limit = limitAt(which);
            return limit != NONE && number > limit;
        }

        private int comparePatterns(Question asked) {
            for (int k = 0; k < patterns.length; k++) {
                ClassPattern next = patternAt(k);
                asked.compared++;
                if (next != null && next.matches(asked)) {
                    asked.lastMatch = k;
                    return next.verdict();
                }
            }
            return UNDECIDED;
        }
    }

    private static final class JoinedFilter extends Filter {
        private final Filter first;
        private final Filter second;

        JoinedFilter(Filter first, Filter second) {
            super(KIND_JOINED, first.leaves + second.leaves, 1 + Math.max(first.high, second.high));
            this.first = first;
            this.second = second;
        }

        int answer(Question asked) {
            int one = first.answer(asked);
            if (one == REJECTED) {
                return REJECTED;
            }
            int other = second.answer(asked);
            if (other == REJECTED) {
                return REJECTED;
            }
            return one == ALLOWED || other == ALLOWED ? ALLOWED : UNDECIDED;
        }
    }

    private static final class StrictFilter extends Filter {
        private final Filter inner;
        private final boolean countsAll;

        StrictFilter(Filter inner, boolean countsAll) {
            super(KIND_STRICT, inner.leaves, 1 + inner.high);
            this.inner = inner;
            this.countsAll = countsAll;
        }

        int answer(Question asked) {
            int found = inner.answer(asked);
            boolean counts = asked.sort == SORT_CLASS || (asked.sort == SORT_NOTHING && countsAll);
            return found == UNDECIDED && counts ? REJECTED : found;
        }
    }

    private static final class DefaultFilter extends Filter {
        private final Filter inner;
        private final int given;

        DefaultFilter(Filter inner, int given) {
            super(KIND_DEFAULT, inner.leaves, 1 + inner.high);
            this.inner = inner;
            this.given = given;
        }

        int answer(Question asked) {
            int found = inner.answer(asked);
            return found == UNDECIDED ? given : found;
        }
    }

    private static final class OnlyFilter extends Filter {
        private final Filter inner;
        private final Signs beginning;

        OnlyFilter(Filter inner, Signs beginning) {
            super(KIND_ONLY, inner.leaves, 1 + inner.high);
            this.inner = inner;
            this.beginning = beginning;
        }

        int answer(Question asked) {
            boolean concerns = asked.sort == SORT_CLASS
                    && asked.name.beginsWithPart(beginning, 0, beginning.length());
            return concerns ? inner.answer(asked) : UNDECIDED;
        }
    }

    /** A class pattern, its signs being parts of the text of its filter. */
    private static final class ClassPattern {
        private final Signs text;
        private final boolean rejects;
        private final int shape;
        private final int moduleFrom;
        private final int moduleEnd;
        private final int nameFrom;
        private final int nameEnd;

        ClassPattern(Signs text, PieceReader piece) {
            this.text = text;
            rejects = piece.rejects;
            shape = piece.shape;
            moduleFrom = piece.moduleFrom;
            moduleEnd = piece.moduleEnd;
            nameFrom = piece.nameFrom;
            nameEnd = piece.nameEnd;
        }

        int verdict() {
            return rejects ? REJECTED : ALLOWED;
        }

        int fullShape() {
            return hasModule() ? SHAPE_WITH_MODULE + shape : shape;
        }

        boolean matches(Question asked) {
            if (hasModule() && !asked.module.isPart(text, moduleFrom, moduleEnd)) {
                return false;
            }
            switch (shape) {
                case SHAPE_NAME:
                    return asked.name.isPart(text, nameFrom, nameEnd);
                case SHAPE_PACKAGE:
                    return beginsName(asked.name) && !hasDotBehind(asked.name, nameEnd - nameFrom);
                default:
                    return beginsName(asked.name);
            }
        }

        private boolean hasModule() {
            return moduleEnd > moduleFrom;
        }

        private boolean beginsName(Signs name) {
            return name.beginsWithPart(text, nameFrom, nameEnd);
        }

        private static boolean hasDotBehind(Signs name, int from) {
            return name.find('.', from, name.length()) < name.length();
        }
    }

    /** Goes through the pieces of a text, holding what the piece it stands at says. */
    private static final class PieceReader {
        private static final int EMPTY = 0;
        private static final int LIMIT = 1;
        private static final int CLASS = 2;
        private static final int BROKEN = 3;

        private final Signs text;
        private int from;
        private int end;
        private int piece;
        private int limit;
        private int number;
        boolean rejects;
        int shape;
        int moduleFrom;
        int moduleEnd;
        int nameFrom;
        int nameEnd;

        PieceReader(Signs text) {
            this.text = text;
        }

        /** How many pieces come before the first broken one, NONE if none is broken. */
        int firstBroken() {
            int pieces = startOver();
            for (int k = 0; k < pieces; k++) {
                readNext();
                if (piece == BROKEN) {
                    return k;
                }
            }
            return NONE;
        }

        TextFilter makeFilter(boolean bases) {
            int[] limits = new int[LIMITS];
            for (int i = 0; i < LIMITS; i++) {
                limits[i] = NONE;
            }
            ClassPattern[] patterns = new ClassPattern[countClasses()];
            // The buffer changes later, the filter must not.
            Signs kept = text.copy();
            int made = 0;
            int pieces = startOver();
            for (int k = 0; k < pieces; k++) {
                readNext();
                if (piece == LIMIT && limit >= 0 && limit < LIMITS) {
                    limits[limit] = number;
                } else if (piece == CLASS && made < patterns.length) {
                    patterns[made] = new ClassPattern(kept, this);
                    made++;
                }
            }
            return new TextFilter(bases, limits, patterns);
        }

        private int countClasses() {
            int count = 0;
            int pieces = startOver();
            for (int k = 0; k < pieces; k++) {
                readNext();
                if (piece == CLASS) {
                    count++;
                }
            }
            return count;
        }

        /** Stands before the first piece; answers how many there are. */
        private int startOver() {
            end = -1;
            int pieces = 1;
            for (int i = 0; i < text.length(); i++) {
                if (text.at(i) == ';') {
                    pieces++;
                }
            }
            return pieces;
        }

        private void readNext() {
            from = end + 1;
            end = text.find(';', from, text.length());
            if (from == end) {
                piece = EMPTY;
                return;
            }
            int equalsAt = text.find('=', from, end);
            if (equalsAt < end) {
                piece = readLimit(equalsAt) ? LIMIT : BROKEN;
            } else {
                piece = readClass() ? CLASS : BROKEN;
            }
        }

        private boolean readLimit(int equalsAt) {
            limit = limitNamed(equalsAt);
            return limit != NONE && readNumber(equalsAt + 1);
        }

        private int limitNamed(int nameEndsAt) {
            if (text.hasWord("maxdepth", from, nameEndsAt)) {
                return LIMIT_DEPTH;
            }
            if (text.hasWord("maxrefs", from, nameEndsAt)) {
                return LIMIT_REFS;
            }
            if (text.hasWord("maxbytes", from, nameEndsAt)) {
                return LIMIT_BYTES;
            }
            return text.hasWord("maxarray", from, nameEndsAt) ? LIMIT_ARRAY : NONE;
        }

        private boolean readNumber(int digitsFrom) {
            int digits = end - digitsFrom;
            if (digits < 1 || digits > MOST_DIGITS) {
                return false;
            }
            number = 0;
            for (int i = digitsFrom; i < end; i++) {
                int code = text.at(i);
                if (code < '0' || code > '9') {
                    return false;
                }
                number = number * 10 + (code - '0');
            }
            return true;
        }

        private boolean readClass() {
            rejects = text.at(from) == '!';
            moduleFrom = rejects ? from + 1 : from;
            int slash = text.find('/', moduleFrom, end);
            if (slash == end) {
                moduleEnd = moduleFrom;
                nameFrom = moduleFrom;
                return readName();
            }
            moduleEnd = slash;
            nameFrom = slash + 1;
            return moduleEnd > moduleFrom && readName();
        }

        /** What is kept of a name are the signs that a class's name must begin with. */
        private boolean readName() {
            if (text.hasWord(".**", Math.max(nameFrom, end - 3), end)) {
                shape = SHAPE_ALL_BELOW;
                nameEnd = end - 2;
                return nameEnd - nameFrom >= 2;
            }
            if (text.hasWord(".*", Math.max(nameFrom, end - 2), end)) {
                shape = SHAPE_PACKAGE;
                nameEnd = end - 1;
                return nameEnd - nameFrom >= 2;
            }
            if (text.hasWord("*", Math.max(nameFrom, end - 1), end)) {
                shape = SHAPE_BEGINNING;
                nameEnd = end - 1;
                return true;
            }
            shape = SHAPE_NAME;
            nameEnd = end;
            return nameEnd > nameFrom;
        }
    }
}
