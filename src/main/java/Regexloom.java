import java.util.Arrays;

/** Expressions that match texts by backing up, by sets of states and by stored sets. */
public final class Regexloom {
    public static final int NONE = -1;
    public static final int GIVEN_UP = -2;

    private static final int PATTERN_COUNT = 4;
    private static final int DRAFT_MOST = 32;
    private static final int TEXT_MOST = 20;
    private static final int OUT_MOST = 100;
    private static final int GROUP_MOST = 6;
    private static final int BUDGET_MOST = 250;
    // Far above what any pattern of 32 signs nests, so that no reading can go deep.
    private static final int DEPTH_MOST = 40;
    // Far above the steps that any loop without a smaller bound of its own can need.
    private static final int STEPS_MOST = 1000000;

    private final char[] draft = new char[DRAFT_MOST];
    private int drafted;
    private final Text text = new Text();
    private final Pattern[] patterns = new Pattern[PATTERN_COUNT];
    private Pattern spare = new Pattern();
    private final Reader reader = new Reader();
    private final Backing backing = new Backing();
    private final Program program = new Program();
    private int compiled = NONE;
    private final Sets sets = new Sets();
    private final Counting counting = new Counting();
    private int budget = BUDGET_MOST;
    private final Table bounds = new Table(2, GROUP_MOST + 1);
    private int latestTrials;
    private final Table matches = new Table(2, TEXT_MOST + 1);
    private Out out = new Out();
    private Out spareOut = new Out();

    public Regexloom() {
        for (int k = 0; k < PATTERN_COUNT; k++) {
            patterns[k] = new Pattern();
        }
        bounds.reach(GROUP_MOST + 1);
        for (int g = 0; g <= GROUP_MOST; g++) {
            bounds.put(g, 0, NONE);
            bounds.put(g, 1, NONE);
        }
    }

    // ---- the draft, texts, patterns

    public int sign(char sign) throws IllegalArgumentException, IllegalStateException {
        if (!Signs.isOfDraft(sign)) {
            throw new IllegalArgumentException("no draft has this sign");
        }
        if (drafted < 0 || drafted >= DRAFT_MOST) {
            throw new IllegalStateException("the draft is full");
        }
        draft[drafted] = sign;
        drafted++;
        return drafted;
    }

    public int clear() {
        int had = drafted;
        drafted = 0;
        return had;
    }

    public int tell(int pattern) throws IndexOutOfBoundsException, IllegalStateException {
        needPattern(pattern);
        if (reader.read(draft, drafted, spare) != NONE) {
            throw new IllegalStateException("the draft has a fault");
        }
        Pattern former = patterns[pattern];
        spare.isTold = true;
        Shape.measure(spare);
        patterns[pattern] = spare;
        spare = former;
        compiled = NONE;
        drafted = 0;
        return patterns[pattern].groups;
    }

    public int fault() {
        return reader.read(draft, drafted, spare);
    }

    public int lot() throws IllegalStateException {
        if (text.size() + drafted > TEXT_MOST) {
            throw new IllegalStateException("the text would be too long");
        }
        for (int k = 0; k < drafted; k++) {
            if (Signs.codeOf(draftSign(k)) == NONE) {
                throw new IllegalStateException("no text has such a sign");
            }
        }
        for (int k = 0; k < drafted; k++) {
            text.add(Signs.codeOf(draftSign(k)));
        }
        drafted = 0;
        return text.size();
    }

    public int wipe() {
        int had = text.size();
        text.empty();
        return had;
    }

    public int length() {
        return text.size();
    }

    public boolean isPlain(int pattern) throws IndexOutOfBoundsException, IllegalStateException {
        needPattern(pattern);
        return toldOne(pattern).isPlain;
    }

    public boolean isRegular(int pattern) throws IndexOutOfBoundsException, IllegalStateException {
        needPattern(pattern);
        return toldOne(pattern).isRegular;
    }

    // ---- matching

    public int setBudget(int trials) throws IllegalArgumentException {
        if (trials < 1 || trials > BUDGET_MOST) {
            throw new IllegalArgumentException("no such budget");
        }
        int former = budget;
        budget = trials;
        return former;
    }

    public int match(int pattern, int from) throws IndexOutOfBoundsException, IllegalStateException {
        needPattern(pattern);
        needPlace(from);
        backing.prepare(toldOne(pattern), text, budget);
        int end = backing.tryAt(from);
        latestTrials = backing.spent();
        keepBounds(end < 0 ? NONE : from, end);
        return end;
    }

    public int find(int pattern, int from) throws IndexOutOfBoundsException, IllegalStateException {
        needPattern(pattern);
        needPlace(from);
        backing.prepare(toldOne(pattern), text, budget);
        int begin = backing.seek(from);
        latestTrials = backing.spent();
        keepBounds(begin, backing.endOfMatch());
        return begin;
    }

    public int matchBySets(int pattern, int from) throws IndexOutOfBoundsException, IllegalStateException {
        needPattern(pattern);
        needPlace(from);
        needPlain(pattern);
        compile(pattern);
        int end = sets.run(program, text, from, true);
        for (int g = 1; g <= GROUP_MOST; g++) {
            bounds.put(g, 0, end == NONE ? NONE : sets.bound(g, 0));
            bounds.put(g, 1, end == NONE ? NONE : sets.bound(g, 1));
        }
        bounds.put(0, 0, end == NONE ? NONE : from);
        bounds.put(0, 1, end);
        return end;
    }

    public int group(int group, boolean isEnd) throws IndexOutOfBoundsException {
        if (group < 0 || group > GROUP_MOST) {
            throw new IndexOutOfBoundsException("no such group");
        }
        return bounds.get(group, isEnd ? 1 : 0);
    }

    public int trials() {
        return latestTrials;
    }

    public int longest(int pattern, int from) throws IndexOutOfBoundsException, IllegalStateException {
        needPattern(pattern);
        needPlace(from);
        needRegular(pattern);
        compile(pattern);
        return sets.run(program, text, from, false);
    }

    public boolean canStill(int pattern, int from) throws IndexOutOfBoundsException, IllegalStateException {
        needPattern(pattern);
        needPlace(from);
        needRegular(pattern);
        compile(pattern);
        sets.run(program, text, from, false);
        return sets.canGoOn();
    }

    public int which(int from) throws IndexOutOfBoundsException {
        needPlace(from);
        int those = 0;
        for (int k = 0; k < PATTERN_COUNT; k++) {
            if (patterns[k].isTold) {
                backing.prepare(patterns[k], text, budget);
                if (backing.tryAt(from) >= 0) {
                    those |= 1 << k;
                }
            }
        }
        return those;
    }

    public int ways(int pattern, int from, int to) throws IndexOutOfBoundsException, IllegalStateException {
        needPattern(pattern);
        needPlace(from);
        needPlace(to);
        needPlain(pattern);
        compile(pattern);
        return counting.count(program, text, from, to);
    }

    // ---- searching on, replacing

    public int findAll(int pattern) throws IndexOutOfBoundsException, IllegalStateException {
        needPattern(pattern);
        backing.prepare(toldOne(pattern), text, budget);
        matches.cutTo(0);
        int from = 0;
        for (int k = 0; k <= TEXT_MOST && from <= text.size(); k++) {
            int begin = backing.seek(from);
            if (begin < 0) {
                break;
            }
            int end = backing.endOfMatch();
            int row = matches.add();
            matches.put(row, 0, begin);
            matches.put(row, 1, end);
            from = end > begin ? end : end + 1;
        }
        return matches.size();
    }

    public int found(int match, boolean isEnd) throws IndexOutOfBoundsException {
        if (match < 0 || match >= matches.size()) {
            throw new IndexOutOfBoundsException("no such match");
        }
        return matches.get(match, isEnd ? 1 : 0);
    }

    public int replace(int pattern) throws IndexOutOfBoundsException, IllegalStateException {
        needPattern(pattern);
        backing.prepare(toldOne(pattern), text, budget);
        // Written beside the old out, which must stay as it is if this throws.
        spareOut.empty();
        int from = 0;
        int copied = 0;
        for (int k = 0; k <= TEXT_MOST && from <= text.size(); k++) {
            int begin = backing.seek(from);
            if (begin == GIVEN_UP) {
                throw new IllegalStateException("a match is given up");
            }
            if (begin == NONE) {
                break;
            }
            int end = backing.endOfMatch();
            spareOut.addSpan(text, copied, begin, Out.AS_IS);
            putTemplate(begin, end);
            copied = end;
            from = end > begin ? end : end + 1;
        }
        spareOut.addSpan(text, copied, text.size(), Out.AS_IS);
        if (spareOut.isTooLong()) {
            throw new IllegalStateException("the out would be too long");
        }
        Out former = out;
        out = spareOut;
        spareOut = former;
        drafted = 0;
        return out.size();
    }

    public char outSign(int place) throws IndexOutOfBoundsException {
        if (place < 0 || place >= out.size()) {
            throw new IndexOutOfBoundsException("no such sign of the out");
        }
        return out.signAt(place);
    }

    // ---- what the calls share

    private void needPattern(int pattern) {
        if (pattern < 0 || pattern >= PATTERN_COUNT) {
            throw new IndexOutOfBoundsException("no such pattern");
        }
    }

    private void needPlace(int place) {
        if (place < 0 || place > text.size()) {
            throw new IndexOutOfBoundsException("no such place");
        }
    }

    private Pattern toldOne(int pattern) {
        if (pattern < 0 || pattern >= PATTERN_COUNT || !patterns[pattern].isTold) {
            throw new IllegalStateException("the pattern is not told");
        }
        return patterns[pattern];
    }

    private void needPlain(int pattern) {
        if (!toldOne(pattern).isPlain) {
            throw new IllegalStateException("the pattern is not plain");
        }
    }

    private void needRegular(int pattern) {
        if (!toldOne(pattern).isRegular) {
            throw new IllegalStateException("the pattern is not regular");
        }
    }

    private void compile(int pattern) {
        if (compiled != pattern) {
            program.compile(toldOne(pattern));
            compiled = pattern;
        }
    }

    private void keepBounds(int begin, int end) {
        boolean isMatch = begin >= 0;
        bounds.put(0, 0, isMatch ? begin : NONE);
        bounds.put(0, 1, isMatch ? end : NONE);
        for (int g = 1; g <= GROUP_MOST; g++) {
            bounds.put(g, 0, isMatch ? backing.bound(g, Backing.SET_BEGIN) : NONE);
            bounds.put(g, 1, isMatch ? backing.bound(g, Backing.SET_END) : NONE);
        }
    }

    private char draftSign(int k) {
        return k >= 0 && k < drafted && k < DRAFT_MOST ? draft[k] : Reader.END;
    }

    private void putTemplate(int begin, int end) {
        for (int k = 0; k < drafted; k++) {
            char sign = draftSign(k);
            int manner = Out.mannerOf(sign);
            char digit = draftSign(k + 1);
            if (manner == NONE || digit < '0' || digit > '9') {
                spareOut.addSign(sign);
                continue;
            }
            int group = digit - '0';
            if (group == 0) {
                spareOut.addSpan(text, begin, end, manner);
            } else {
                spareOut.addSpan(text, backing.bound(group, Backing.SET_BEGIN),
                        backing.bound(group, Backing.SET_END), manner);
            }
            // The digit is used up.
            k++;
        }
    }

    /**
     * Rows of numbers; all bounds are looked at here, so that no caller can step outside. It begins
     * small and grows when it must, since few runs need what the dearest pattern would.
     */
    static final class Table {
        private static final int ROWS_AT_FIRST = 32;

        private final int width;
        private final int most;
        private int[] cells;
        private int size;

        Table(int columns, int rows) {
            width = columns < 1 ? 1 : columns;
            most = rows < 1 ? 1 : rows;
            cells = new int[width * Math.min(most, ROWS_AT_FIRST)];
        }

        /** Adds a row with what its cells had; NONE if there is no room. */
        int add() {
            if (size >= most) {
                return NONE;
            }
            if ((size + 1) * width > cells.length) {
                cells = Arrays.copyOf(cells, width * Math.min(most, 2 * size + 2));
            }
            size++;
            return size - 1;
        }

        /** Adds rows until there are so many; cells that were never put to are 0. */
        void reach(int rows) {
            int wanted = Math.min(most, rows);
            if (wanted <= size) {
                return;
            }
            if (wanted * width > cells.length) {
                cells = Arrays.copyOf(cells, width * Math.min(most, 2 * wanted));
            }
            size = wanted;
        }

        int size() {
            return size;
        }

        void cutTo(int rows) {
            if (rows >= 0 && rows < size) {
                size = rows;
            }
        }

        int get(int row, int column) {
            if (row < 0 || row >= size || column < 0 || column >= width) {
                return NONE;
            }
            return cells[row * width + column];
        }

        void put(int row, int column, int value) {
            if (row >= 0 && row < size && column >= 0 && column < width) {
                cells[row * width + column] = value;
            }
        }
    }

    /** The signs of texts as numbers 0 to 63, so that a set of them is one long. */
    static final class Signs {
        static final int CAPITALS = 26;
        static final int DIGITS = 52;
        static final int LOW_LINE = 62;
        static final int BLANK = 63;
        static final long SMALL_SET = (1L << 26) - 1L;
        static final long CAPITAL_SET = SMALL_SET << 26;
        static final long DIGIT_SET = 1023L << 52;
        static final long ALL = -1L;
        static final long WORD_SET = ~(1L << 63);
        private static final String OTHERS = ".*+?{}()[]|^$\\,:=!<>-#";

        static int codeOf(char sign) {
            if (sign >= 'a' && sign <= 'z') {
                return sign - 'a';
            }
            if (sign >= 'A' && sign <= 'Z') {
                return sign - 'A' + CAPITALS;
            }
            if (sign >= '0' && sign <= '9') {
                return sign - '0' + DIGITS;
            }
            if (sign == '_') {
                return LOW_LINE;
            }
            return sign == ' ' ? BLANK : NONE;
        }

        static char signOf(int code) {
            if (code < CAPITALS) {
                return (char) ('a' + code);
            }
            if (code < DIGITS) {
                return (char) ('A' + code - CAPITALS);
            }
            if (code < LOW_LINE) {
                return (char) ('0' + code - DIGITS);
            }
            return code == LOW_LINE ? '_' : ' ';
        }

        static boolean isOfDraft(char sign) {
            return codeOf(sign) != NONE || OTHERS.indexOf(sign) >= 0;
        }

        /** 0 for small letters, 1 for capitals, 2 for digits, NONE for what no range has. */
        static int rangeKind(int code) {
            if (code < 0 || code >= LOW_LINE) {
                return NONE;
            }
            if (code < CAPITALS) {
                return 0;
            }
            return code < DIGITS ? 1 : 2;
        }

        static int smallOf(int code) {
            return code >= CAPITALS && code < DIGITS ? code - CAPITALS : code;
        }

        static int capitalOf(int code) {
            return code >= 0 && code < CAPITALS ? code + CAPITALS : code;
        }

        static boolean isOfWord(int code) {
            return code >= 0 && code < BLANK;
        }

        static long setOf(int code) {
            return code < 0 || code > BLANK ? 0L : 1L << code;
        }

        /** The set, and each letter of it in its other size. */
        static long bothSizes(long set) {
            return set | (set & SMALL_SET) << CAPITALS | (set & CAPITAL_SET) >>> CAPITALS;
        }

        static boolean has(long set, int code) {
            return code >= 0 && code <= BLANK && (set >>> code & 1L) != 0L;
        }
    }

    /** The text, as codes of its signs. */
    static final class Text {
        private final Table codes = new Table(1, TEXT_MOST);

        int size() {
            return codes.size();
        }

        void empty() {
            codes.cutTo(0);
        }

        void add(int code) {
            codes.put(codes.add(), 0, code);
        }

        /** NONE ahead of the text and behind it. */
        int codeAt(int place) {
            return codes.get(place, 0);
        }

        boolean holds(int edge, int place) {
            switch (edge) {
                case Pattern.AT_START:
                    return place == 0;
                case Pattern.AT_END:
                    return place == size();
                default:
                    boolean isBehindWord = Signs.isOfWord(codes.get(place - 1, 0));
                    boolean isBeforeWord = Signs.isOfWord(codes.get(place, 0));
                    return (isBehindWord != isBeforeWord) == (edge == Pattern.AT_WORD_EDGE);
            }
        }
    }

    /** The out while it is written: what goes beyond its room only makes it too long. */
    static final class Out {
        static final int AS_IS = 0;
        static final int AS_CAPITALS = 1;
        static final int AS_SMALL = 2;

        private final Table signs = new Table(1, OUT_MOST);
        private boolean isTooLong;

        static int mannerOf(char sign) {
            switch (sign) {
                case '$':
                    return AS_IS;
                case '^':
                    return AS_CAPITALS;
                case '-':
                    return AS_SMALL;
                default:
                    return NONE;
            }
        }

        void empty() {
            signs.cutTo(0);
            isTooLong = false;
        }

        int size() {
            return signs.size();
        }

        boolean isTooLong() {
            return isTooLong;
        }

        char signAt(int place) {
            return (char) signs.get(place, 0);
        }

        void addSign(char sign) {
            int row = signs.add();
            if (row == NONE) {
                isTooLong = true;
            }
            signs.put(row, 0, sign);
        }

        /** Adds nothing for a group that is not set, whose bounds are NONE. */
        void addSpan(Text text, int begin, int end, int manner) {
            for (int place = begin; place >= 0 && place < end; place++) {
                int code = text.codeAt(place);
                if (manner == AS_CAPITALS) {
                    code = Signs.capitalOf(code);
                } else if (manner == AS_SMALL) {
                    code = Signs.smallOf(code);
                }
                addSign(Signs.signOf(code));
            }
        }
    }

    /** A pattern as a tree: pieces in rows, rows as branches, branches in pieces. */
    static final class Pattern {
        // The kinds of pieces.
        static final int SIGN = 0;
        static final int AT_START = 1;
        static final int AT_END = 2;
        static final int AT_WORD_EDGE = 3;
        static final int AT_NO_EDGE = 4;
        static final int GROUP = 5;
        static final int NO_GROUP = 6;
        static final int AHEAD = 7;
        static final int NOT_AHEAD = 8;
        static final int BEHIND = 9;
        static final int NOT_BEHIND = 10;
        static final int ATOMIC = 11;
        static final int REFERENCE = 12;
        static final int CALL = 13;
        static final int CONDITION = 14;
        static final int CUT = 15;

        // The manners of counts.
        static final int ONCE = 0;
        static final int GREEDY = 1;
        static final int LAZY = 2;
        static final int POSSESSIVE = 3;
        static final int WITHOUT_END = 1000000;

        // The columns of a piece. A number: of a group (0 for the whole), or the sign of a cut.
        static final int KIND = 0;
        static final int NUMBER = 1;
        static final int BODY = 2;
        static final int NEXT = 3;
        static final int MANNER = 4;
        static final int LEAST = 5;
        static final int MOST = 6;
        static final int IS_ALIKE = 7;
        static final int SET_LOW = 8;
        static final int SET_HIGH = 9;

        // The columns of a branch.
        static final int FIRST_PIECE = 0;
        static final int NEXT_BRANCH = 1;

        // Every piece takes a sign of the draft, every branch but the first one, too.
        final Table pieces = new Table(10, DRAFT_MOST + 1);
        final Table branches = new Table(2, DRAFT_MOST + 1);
        // Of each number the piece of the group that is told first.
        final Table firstGroups = new Table(1, GROUP_MOST + 1);
        int root;
        int groups;
        boolean isTold;
        boolean isPlain;
        boolean isRegular;

        void empty() {
            pieces.cutTo(0);
            branches.cutTo(0);
            firstGroups.reach(GROUP_MOST + 1);
            for (int g = 0; g <= GROUP_MOST; g++) {
                firstGroups.put(g, 0, NONE);
            }
            root = NONE;
            groups = 0;
            isTold = false;
            isPlain = false;
            isRegular = false;
        }

        int of(int piece, int column) {
            return pieces.get(piece, column);
        }

        int addPiece(int kind, int number, int body, boolean isAlike) {
            int piece = pieces.add();
            pieces.put(piece, KIND, kind);
            pieces.put(piece, NUMBER, number);
            pieces.put(piece, BODY, body);
            pieces.put(piece, NEXT, NONE);
            pieces.put(piece, IS_ALIKE, isAlike ? 1 : 0);
            setCount(piece, ONCE, 1, 1);
            return piece;
        }

        int addSet(long set) {
            int piece = addPiece(SIGN, NONE, NONE, false);
            pieces.put(piece, SET_LOW, (int) set);
            pieces.put(piece, SET_HIGH, (int) (set >>> 32));
            return piece;
        }

        void setCount(int piece, int manner, int least, int most) {
            pieces.put(piece, MANNER, manner);
            pieces.put(piece, LEAST, least);
            pieces.put(piece, MOST, most);
        }

        int addBranch() {
            int branch = branches.add();
            branches.put(branch, FIRST_PIECE, NONE);
            branches.put(branch, NEXT_BRANCH, NONE);
            return branch;
        }

        int firstPiece(int branch) {
            return branches.get(branch, FIRST_PIECE);
        }

        int nextBranch(int branch) {
            return branches.get(branch, NEXT_BRANCH);
        }

        long set(int piece) {
            return joined(of(piece, SET_LOW), of(piece, SET_HIGH));
        }

        static long joined(int low, int high) {
            return ((long) high << 32) | ((long) low & 4294967295L);
        }

        /** What a call of this number tries: 0 for the whole. */
        int bodyOfCall(int number) {
            return number == 0 ? root : of(firstGroups.get(number, 0), BODY);
        }
    }

    /** Reads a draft as a pattern, and finds the first sign with which no pattern goes on. */
    static final class Reader {
        static final char END = (char) 0;
        private static final String ESCAPED = ".*+?()[]|^$\\";

        // In what a row of branches stands, where that matters to the reading.
        private static final int ANYWHERE = 0;
        private static final int IN_RESET = 1;
        private static final int IN_CONDITION = 2;

        private char[] draft;
        private int size;
        private int at;
        private int fault;
        private Pattern into;
        private int number;
        private int highestNeeded;

        /** Returns the fault, or NONE. */
        int read(char[] signs, int count, Pattern pattern) {
            draft = signs;
            size = count;
            at = 0;
            fault = NONE;
            into = pattern;
            number = 0;
            highestNeeded = 0;
            into.empty();
            into.root = readBranches(ANYWHERE, false, 0);
            if (at < size) {
                refuse();
            }
            if (fault == NONE && highestNeeded > number) {
                fault = size + 1;
            }
            into.groups = number;
            return fault;
        }

        private char peek() {
            return draft != null && at >= 0 && at < size && at < draft.length ? draft[at] : END;
        }

        // The first sign that is refused is the fault; at the end of the draft that is its length.
        private void refuse() {
            if (fault == NONE) {
                fault = at;
            }
        }

        private void expect(char sign) {
            if (peek() == sign) {
                at++;
            } else {
                refuse();
            }
        }

        private int readBranches(int inWhat, boolean isAlike, int depth) {
            if (depth > DEPTH_MOST) {
                refuse();
                return NONE;
            }
            int former = number;
            int most = number;
            int first = into.addBranch();
            int last = first;
            readRow(first, isAlike, depth);
            for (int bars = 1; bars <= DRAFT_MOST && fault == NONE && peek() == '|'; bars++) {
                if (inWhat == IN_CONDITION && bars == 2) {
                    refuse();
                    break;
                }
                at++;
                most = Math.max(most, number);
                if (inWhat == IN_RESET) {
                    number = former;
                }
                int branch = into.addBranch();
                into.branches.put(last, Pattern.NEXT_BRANCH, branch);
                last = branch;
                readRow(branch, isAlike, depth);
            }
            number = Math.max(most, number);
            return first;
        }

        private void readRow(int branch, boolean isAlike, int depth) {
            int last = NONE;
            for (int k = 0; k < DRAFT_MOST && fault == NONE; k++) {
                if (at >= size || peek() == '|' || peek() == ')') {
                    return;
                }
                int piece = readAtom(isAlike, depth);
                readCount(piece);
                if (last == NONE) {
                    into.branches.put(branch, Pattern.FIRST_PIECE, piece);
                } else {
                    into.pieces.put(last, Pattern.NEXT, piece);
                }
                last = piece;
            }
        }

        private int readAtom(boolean isAlike, int depth) {
            char sign = peek();
            int code = Signs.codeOf(sign);
            if (code != NONE) {
                at++;
                return addSet(Signs.setOf(code), isAlike);
            }
            switch (sign) {
                case '.':
                    at++;
                    return into.addSet(Signs.ALL);
                case '^':
                    at++;
                    return into.addPiece(Pattern.AT_START, NONE, NONE, false);
                case '$':
                    at++;
                    return into.addPiece(Pattern.AT_END, NONE, NONE, false);
                case '\\':
                    at++;
                    return readEscape(isAlike);
                case '[':
                    at++;
                    return readClass(isAlike);
                case '(':
                    at++;
                    return readParenthesis(isAlike, depth);
                default:
                    refuse();
                    return NONE;
            }
        }

        private int addSet(long set, boolean isAlike) {
            return into.addSet(isAlike ? Signs.bothSizes(set) : set);
        }

        private int readEscape(boolean isAlike) {
            char sign = peek();
            if (sign >= '1' && sign <= '6') {
                at++;
                return into.addPiece(Pattern.REFERENCE, needed(sign), NONE, isAlike);
            }
            switch (sign) {
                case 'w':
                    at++;
                    return into.addSet(Signs.WORD_SET);
                case 'd':
                    at++;
                    return into.addSet(Signs.DIGIT_SET);
                case 'b':
                    at++;
                    return into.addPiece(Pattern.AT_WORD_EDGE, NONE, NONE, false);
                case 'B':
                    at++;
                    return into.addPiece(Pattern.AT_NO_EDGE, NONE, NONE, false);
                default:
                    if (sign == END || ESCAPED.indexOf(sign) < 0) {
                        refuse();
                        return NONE;
                    }
                    at++;
                    // No text has this sign.
                    return into.addSet(0L);
            }
        }

        private int needed(char digit) {
            int group = digit - '0';
            highestNeeded = Math.max(highestNeeded, group);
            return group;
        }

        private int readClass(boolean isAlike) {
            boolean isOther = peek() == '^';
            if (isOther) {
                at++;
            }
            long set = readMember();
            for (int k = 0; k < DRAFT_MOST && fault == NONE && peek() != ']'; k++) {
                set |= readMember();
            }
            expect(']');
            if (isAlike) {
                set = Signs.bothSizes(set);
            }
            return into.addSet(isOther ? ~set : set);
        }

        /** A sign of a class, or a range. */
        private long readMember() {
            int low = Signs.codeOf(peek());
            if (low == NONE) {
                refuse();
                return 0L;
            }
            at++;
            if (peek() != '-' || Signs.rangeKind(low) == NONE) {
                return Signs.setOf(low);
            }
            at++;
            int high = Signs.codeOf(peek());
            if (Signs.rangeKind(high) != Signs.rangeKind(low) || high < low) {
                refuse();
                return 0L;
            }
            at++;
            long set = 0L;
            for (int code = low; code <= high; code++) {
                set |= Signs.setOf(code);
            }
            return set;
        }

        private int readParenthesis(boolean isAlike, int depth) {
            if (peek() == '?') {
                at++;
                return readSpecial(isAlike, depth);
            }
            if (peek() == '*') {
                at++;
                return readCut();
            }
            if (number >= GROUP_MOST) {
                refuse();
                return NONE;
            }
            number++;
            int own = number;
            int piece = into.addPiece(Pattern.GROUP, own, NONE, isAlike);
            if (into.firstGroups.get(own, 0) == NONE) {
                into.firstGroups.put(own, 0, piece);
            }
            return fill(piece, ANYWHERE, isAlike, depth);
        }

        private int fill(int piece, int inWhat, boolean isAlike, int depth) {
            int body = readBranches(inWhat, isAlike, depth + 1);
            into.pieces.put(piece, Pattern.BODY, body);
            expect(')');
            return piece;
        }

        private int readCut() {
            char sign = peek();
            if (sign != 'C' && sign != 'P' && sign != 'S' && sign != 'T') {
                refuse();
                return NONE;
            }
            at++;
            expect(')');
            return into.addPiece(Pattern.CUT, sign, NONE, false);
        }

        /** What stands behind an opening sign and a question mark. */
        private int readSpecial(boolean isAlike, int depth) {
            char sign = peek();
            if (sign == 'R' || sign >= '1' && sign <= '6') {
                at++;
                expect(')');
                return into.addPiece(Pattern.CALL, sign == 'R' ? 0 : needed(sign), NONE, false);
            }
            switch (sign) {
                case ':':
                    at++;
                    return fill(addBare(Pattern.NO_GROUP), ANYWHERE, isAlike, depth);
                case 'i':
                    at++;
                    expect(':');
                    return fill(addBare(Pattern.NO_GROUP), ANYWHERE, true, depth);
                case '|':
                    at++;
                    return fill(addBare(Pattern.NO_GROUP), IN_RESET, isAlike, depth);
                case '=':
                    at++;
                    return fill(addBare(Pattern.AHEAD), ANYWHERE, isAlike, depth);
                case '!':
                    at++;
                    return fill(addBare(Pattern.NOT_AHEAD), ANYWHERE, isAlike, depth);
                case '>':
                    at++;
                    return fill(addBare(Pattern.ATOMIC), ANYWHERE, isAlike, depth);
                case '<':
                    at++;
                    return readBehind(isAlike, depth);
                case '(':
                    at++;
                    return readCondition(isAlike, depth);
                default:
                    refuse();
                    return NONE;
            }
        }

        private int addBare(int kind) {
            return into.addPiece(kind, NONE, NONE, false);
        }

        private int readBehind(boolean isAlike, int depth) {
            char sign = peek();
            if (sign != '=' && sign != '!') {
                refuse();
                return NONE;
            }
            at++;
            return fill(addBare(sign == '=' ? Pattern.BEHIND : Pattern.NOT_BEHIND), ANYWHERE, isAlike, depth);
        }

        private int readCondition(boolean isAlike, int depth) {
            char sign = peek();
            if (sign < '1' || sign > '6') {
                refuse();
                return NONE;
            }
            at++;
            expect(')');
            int piece = into.addPiece(Pattern.CONDITION, needed(sign), NONE, false);
            return fill(piece, IN_CONDITION, isAlike, depth);
        }

        private void readCount(int piece) {
            char sign = peek();
            if (fault != NONE || sign != '*' && sign != '+' && sign != '?' && sign != '{') {
                return;
            }
            if (!canBeCounted(into.of(piece, Pattern.KIND))) {
                refuse();
                return;
            }
            at++;
            int least = sign == '+' ? 1 : 0;
            int most = sign == '?' ? 1 : Pattern.WITHOUT_END;
            if (sign == '{') {
                least = readDigit(0);
                most = readMost(least);
            }
            int manner = Pattern.GREEDY;
            if (peek() == '?') {
                manner = Pattern.LAZY;
                at++;
            } else if (peek() == '+') {
                manner = Pattern.POSSESSIVE;
                at++;
            }
            into.setCount(piece, manner, least, most);
        }

        private static boolean canBeCounted(int kind) {
            switch (kind) {
                case Pattern.AT_START:
                case Pattern.AT_END:
                case Pattern.AT_WORD_EDGE:
                case Pattern.AT_NO_EDGE:
                case Pattern.AHEAD:
                case Pattern.NOT_AHEAD:
                case Pattern.BEHIND:
                case Pattern.NOT_BEHIND:
                case Pattern.CUT:
                    return false;
                default:
                    return true;
            }
        }

        private int readDigit(int lowest) {
            char sign = peek();
            if (sign < '0' || sign > '9' || sign - '0' < lowest) {
                refuse();
                return 0;
            }
            at++;
            return sign - '0';
        }

        /** The rest of a count in braces, behind its first digit. */
        private int readMost(int least) {
            if (fault != NONE) {
                return 0;
            }
            int most = least;
            if (peek() == ',') {
                at++;
                if (peek() == '}') {
                    at++;
                    return Pattern.WITHOUT_END;
                }
                most = readDigit(Math.max(1, least));
            } else if (least == 0) {
                refuse();
            }
            expect('}');
            return most;
        }
    }

    /** Tells whether a pattern is plain, and regular. */
    static final class Shape {
        private static final int WEIGHT_MOST = 24;

        static void measure(Pattern pattern) {
            boolean isPlain = weightOfBody(pattern, pattern.root, 0) <= WEIGHT_MOST;
            boolean hasEdge = false;
            for (int piece = 0; piece < pattern.pieces.size(); piece++) {
                int kind = pattern.of(piece, Pattern.KIND);
                if (isHard(kind) || pattern.of(piece, Pattern.MANNER) == Pattern.POSSESSIVE
                        || isCountedAbove1(pattern, piece) && canBeEmpty(pattern, piece)) {
                    isPlain = false;
                }
                if (isEdge(kind)) {
                    hasEdge = true;
                }
            }
            pattern.isPlain = isPlain;
            pattern.isRegular = isPlain && !hasEdge;
        }

        static boolean isEdge(int kind) {
            return kind >= Pattern.AT_START && kind <= Pattern.AT_NO_EDGE;
        }

        private static boolean isHard(int kind) {
            return kind >= Pattern.AHEAD;
        }

        private static boolean isCountedAbove1(Pattern pattern, int piece) {
            int most = pattern.of(piece, Pattern.MOST);
            return pattern.of(piece, Pattern.LEAST) > 1 || most > 1 && most != Pattern.WITHOUT_END;
        }

        /** Whether the atom of a piece could match without a sign. */
        static boolean canBeEmpty(Pattern pattern, int piece) {
            return canAtomBeEmpty(pattern, piece, 0);
        }

        private static boolean canAtomBeEmpty(Pattern pattern, int piece, int depth) {
            if (isEdge(pattern.of(piece, Pattern.KIND))) {
                return true;
            }
            int branch = pattern.of(piece, Pattern.BODY);
            for (int k = 0; k <= DRAFT_MOST && branch != NONE; k++) {
                if (canRowBeEmpty(pattern, branch, depth)) {
                    return true;
                }
                branch = pattern.nextBranch(branch);
            }
            return false;
        }

        private static boolean canRowBeEmpty(Pattern pattern, int branch, int depth) {
            if (depth > DEPTH_MOST) {
                return false;
            }
            int piece = pattern.firstPiece(branch);
            for (int k = 0; k <= DRAFT_MOST && piece != NONE; k++) {
                if (pattern.of(piece, Pattern.LEAST) > 0 && !canAtomBeEmpty(pattern, piece, depth + 1)) {
                    return false;
                }
                piece = pattern.of(piece, Pattern.NEXT);
            }
            return true;
        }

        private static int weightOfBody(Pattern pattern, int body, int depth) {
            if (depth > DEPTH_MOST) {
                return 0;
            }
            int weight = 0;
            int branch = body;
            for (int k = 0; k <= DRAFT_MOST && branch != NONE; k++) {
                int piece = pattern.firstPiece(branch);
                for (int j = 0; j <= DRAFT_MOST && piece != NONE; j++) {
                    int own = pattern.of(piece, Pattern.KIND) == Pattern.SIGN ? 1
                            : weightOfBody(pattern, pattern.of(piece, Pattern.BODY), depth + 1);
                    weight += own * timesOf(pattern, piece);
                    piece = pattern.of(piece, Pattern.NEXT);
                }
                branch = pattern.nextBranch(branch);
            }
            return weight;
        }

        private static int timesOf(Pattern pattern, int piece) {
            int most = pattern.of(piece, Pattern.MOST);
            return most == Pattern.WITHOUT_END ? Math.max(1, pattern.of(piece, Pattern.LEAST)) : most;
        }
    }

    /**
     * Matches by backing up. What stands around a piece is a chain of frames, from the innermost
     * one out, which is never changed but only left; so a choice holds all that is needed to go on
     * from it by the frame it was made in, and nothing here calls itself.
     */
    static final class Backing {
        // What is to be done next, with the piece, branch, turn, frame and place at hand.
        private static final int DO_ROW = 0;
        private static final int DO_COUNT = 1;
        private static final int DO_TURN = 2;
        private static final int DO_LEAVE = 3;
        private static final int DO_ATOM = 4;
        private static final int DO_BODY = 5;
        private static final int DO_BRANCH = 6;
        private static final int DO_BEHIND = 7;
        private static final int DO_RESUME = 8;
        private static final int DO_BACK = 9;
        private static final int MATCHED = 10;
        private static final int LOST = 11;
        private static final int SPENT = 12;

        // Kinds of frames, besides those of the pieces with a body.
        private static final int WHOLE = 20;
        private static final int OF_TURN = 21;
        private static final int OF_POSSESSIVE = 22;

        // The columns of a frame. Its height: how many choices there were at its beginning.
        private static final int F_KIND = 0;
        private static final int F_PIECE = 1;
        private static final int F_PLACE = 2;
        private static final int F_PARENT = 3;
        private static final int F_HEIGHT = 4;
        private static final int F_BRANCH_AT = 5;
        private static final int F_SETS = 6;
        private static final int F_TURN = 7;

        // The columns of a choice, and what it goes on with.
        private static final int C_DOING = 0;
        private static final int C_PIECE = 1;
        private static final int C_TURN = 2;
        private static final int C_PLACE = 3;
        private static final int C_FRAME = 4;
        private static final int C_SETS = 5;
        private static final int C_SET_COUNT = 6;
        private static final int PASS_LOOK = 30;
        private static final int BACK_OVER_CUT = 31;

        // The columns of what a group was set to; the one set before it is a row, too.
        static final int SET_BEGIN = 0;
        static final int SET_END = 1;
        private static final int SET_GROUP = 2;
        private static final int SET_BEFORE = 3;

        private static final int CALLS_MOST = 5;

        // A trial makes two frames at most. A choice without a trial is only that of a lazy count,
        // of which a row, itself begun by a trial, has ten at most.
        private final Table frames = new Table(8, 1024);
        private final Table choices = new Table(7, 8192);
        private final Table settings = new Table(4, 1024);

        private Pattern pattern;
        private Text text;
        private int budget;
        private int spent;
        private int doing;
        private int piece;
        private int branch;
        private int turn;
        private int frame;
        private int place;
        private int sets;
        private int cut;
        private int cutPlace;
        private int end;

        void prepare(Pattern newPattern, Text newText, int newBudget) {
            pattern = newPattern;
            text = newText;
            budget = newBudget;
            spent = 0;
        }

        int spent() {
            return spent;
        }

        int endOfMatch() {
            return end;
        }

        /** A bound of a group in the latest match. */
        int bound(int group, int column) {
            return settings.get(settingOf(group), column);
        }

        /** Returns where the first match from a place on begins. */
        int seek(int from) {
            int begin = from;
            for (int k = 0; k <= TEXT_MOST && begin <= text.size(); k++) {
                int answer = tryAt(begin);
                if (answer != NONE) {
                    return answer == GIVEN_UP ? GIVEN_UP : begin;
                }
                if (cut == 'C') {
                    return NONE;
                }
                begin = cut == 'S' && cutPlace > begin ? cutPlace : begin + 1;
            }
            return NONE;
        }

        /** Returns the end of the match that begins here. */
        int tryAt(int begin) {
            frames.cutTo(0);
            choices.cutTo(0);
            settings.cutTo(0);
            sets = NONE;
            cut = NONE;
            end = NONE;
            place = begin;
            turn = 0;
            piece = NONE;
            frame = NONE;
            enter(WHOLE);
            branch = pattern.root;
            doing = DO_BODY;
            for (int step = 0; step < STEPS_MOST && doing < MATCHED; step++) {
                switch (doing) {
                    case DO_ROW:
                        doRow();
                        break;
                    case DO_COUNT:
                        doCount();
                        break;
                    case DO_TURN:
                        doTurn();
                        break;
                    case DO_LEAVE:
                        doLeave();
                        break;
                    case DO_ATOM:
                        doAtom();
                        break;
                    case DO_BODY:
                        doBody();
                        break;
                    case DO_BRANCH:
                        doBranch();
                        break;
                    case DO_BEHIND:
                        doBehind();
                        break;
                    case DO_RESUME:
                        doResume();
                        break;
                    default:
                        doBack();
                        break;
                }
            }
            if (doing == MATCHED) {
                end = place;
                return end;
            }
            return doing == LOST ? NONE : GIVEN_UP;
        }

        private boolean spend() {
            if (spent >= budget) {
                doing = SPENT;
                return false;
            }
            spent++;
            return true;
        }

        /** Makes a frame within the one at hand, and enters it. */
        private void enter(int kind) {
            int inner = frames.add();
            frames.put(inner, F_KIND, kind);
            frames.put(inner, F_PIECE, piece);
            frames.put(inner, F_PLACE, place);
            frames.put(inner, F_PARENT, frame);
            frames.put(inner, F_HEIGHT, choices.size());
            frames.put(inner, F_BRANCH_AT, NONE);
            frames.put(inner, F_SETS, sets);
            frames.put(inner, F_TURN, turn);
            frame = inner;
        }

        private void choose(int later, int what) {
            int row = choices.add();
            choices.put(row, C_DOING, later);
            choices.put(row, C_PIECE, what);
            choices.put(row, C_TURN, turn);
            choices.put(row, C_PLACE, place);
            choices.put(row, C_FRAME, frame);
            choices.put(row, C_SETS, sets);
            choices.put(row, C_SET_COUNT, settings.size());
        }

        private void doRow() {
            if (piece == NONE) {
                doing = DO_RESUME;
                return;
            }
            int manner = pattern.of(piece, Pattern.MANNER);
            if (manner == Pattern.ONCE) {
                doing = DO_ATOM;
                return;
            }
            if (manner == Pattern.POSSESSIVE) {
                enter(OF_POSSESSIVE);
            }
            turn = 0;
            doing = DO_COUNT;
        }

        /** Goes on with a count of which some turns are done. */
        private void doCount() {
            if (turn < pattern.of(piece, Pattern.LEAST)) {
                doing = DO_TURN;
            } else if (turn >= pattern.of(piece, Pattern.MOST)) {
                doing = DO_LEAVE;
            } else if (pattern.of(piece, Pattern.MANNER) == Pattern.LAZY) {
                choose(DO_TURN, piece);
                doing = DO_LEAVE;
            } else {
                choose(DO_LEAVE, piece);
                doing = DO_TURN;
            }
        }

        private void doTurn() {
            if (spend()) {
                turn++;
                enter(OF_TURN);
                doing = DO_ATOM;
            }
        }

        private void doLeave() {
            if (pattern.of(piece, Pattern.MANNER) == Pattern.POSSESSIVE) {
                choices.cutTo(frames.get(frame, F_HEIGHT));
                frame = frames.get(frame, F_PARENT);
            }
            piece = pattern.of(piece, Pattern.NEXT);
            doing = DO_ROW;
        }

        /** Goes on behind an atom: in the row, or, if it was a turn, with the frame of that. */
        private void pass() {
            if (pattern.of(piece, Pattern.MANNER) == Pattern.ONCE) {
                piece = pattern.of(piece, Pattern.NEXT);
                doing = DO_ROW;
            } else {
                doing = DO_RESUME;
            }
        }

        private void passIf(boolean holds) {
            if (holds) {
                pass();
            } else {
                doing = DO_BACK;
            }
        }

        private void doAtom() {
            if (!spend()) {
                return;
            }
            int kind = pattern.of(piece, Pattern.KIND);
            switch (kind) {
                case Pattern.SIGN:
                    boolean eats = Signs.has(pattern.set(piece), text.codeAt(place));
                    place++;
                    passIf(eats);
                    break;
                case Pattern.AT_START:
                case Pattern.AT_END:
                case Pattern.AT_WORD_EDGE:
                case Pattern.AT_NO_EDGE:
                    passIf(text.holds(kind, place));
                    break;
                case Pattern.REFERENCE:
                    doReference();
                    break;
                case Pattern.CALL:
                    doCall();
                    break;
                case Pattern.CONDITION:
                    doCondition();
                    break;
                case Pattern.CUT:
                    choose(BACK_OVER_CUT, piece);
                    pass();
                    break;
                default:
                    doEnter(kind);
                    break;
            }
        }

        /** Begins an atom with branches. */
        private void doEnter(int kind) {
            if (kind == Pattern.NOT_AHEAD || kind == Pattern.NOT_BEHIND) {
                choose(PASS_LOOK, piece);
            }
            enter(kind);
            if (kind == Pattern.BEHIND || kind == Pattern.NOT_BEHIND) {
                turn = place;
                doing = DO_BEHIND;
            } else {
                branch = pattern.of(piece, Pattern.BODY);
                doing = DO_BODY;
            }
        }

        /** Tries a look behind from one place; the turn tells which. */
        private void doBehind() {
            if (turn < 0) {
                doing = DO_BACK;
                return;
            }
            if (!spend()) {
                return;
            }
            int from = turn;
            turn = from - 1;
            choose(DO_BEHIND, NONE);
            place = from;
            branch = pattern.of(frames.get(frame, F_PIECE), Pattern.BODY);
            doing = DO_BODY;
        }

        private void doReference() {
            int setting = settingOf(pattern.of(piece, Pattern.NUMBER));
            if (setting == NONE) {
                doing = DO_BACK;
                return;
            }
            boolean isAlike = pattern.of(piece, Pattern.IS_ALIKE) == 1;
            int last = settings.get(setting, SET_END);
            boolean isSame = true;
            for (int k = settings.get(setting, SET_BEGIN); k < last && isSame; k++) {
                int own = text.codeAt(k);
                int other = text.codeAt(place);
                isSame = own == other || isAlike && Signs.smallOf(own) == Signs.smallOf(other);
                place++;
            }
            passIf(isSame);
        }

        private void doCall() {
            if (openCalls() >= CALLS_MOST) {
                doing = DO_BACK;
                return;
            }
            enter(Pattern.CALL);
            branch = pattern.bodyOfCall(pattern.of(piece, Pattern.NUMBER));
            doing = DO_BODY;
        }

        private int openCalls() {
            int calls = 0;
            int outer = frame;
            for (int k = 0; k <= frames.size() && outer != NONE; k++) {
                if (frames.get(outer, F_KIND) == Pattern.CALL) {
                    calls++;
                }
                outer = frames.get(outer, F_PARENT);
            }
            return calls;
        }

        private void doCondition() {
            int chosen = pattern.of(piece, Pattern.BODY);
            if (settingOf(pattern.of(piece, Pattern.NUMBER)) == NONE) {
                chosen = pattern.nextBranch(chosen);
            }
            if (chosen == NONE) {
                pass();
                return;
            }
            enter(Pattern.CONDITION);
            piece = pattern.firstPiece(chosen);
            doing = DO_ROW;
        }

        private void doBody() {
            if (pattern.nextBranch(branch) == NONE) {
                piece = pattern.firstPiece(branch);
                doing = DO_ROW;
            } else {
                frames.put(frame, F_BRANCH_AT, choices.size());
                doing = DO_BRANCH;
            }
        }

        /** Begins a branch of several. The last one leaves a choice, too, for a cut to back up to. */
        private void doBranch() {
            if (branch == NONE) {
                doing = DO_BACK;
            } else if (spend()) {
                choose(DO_BRANCH, pattern.nextBranch(branch));
                piece = pattern.firstPiece(branch);
                doing = DO_ROW;
            }
        }

        /** Goes on behind the frame at hand, all in it being matched. */
        private void doResume() {
            int inner = frame;
            int kind = frames.get(inner, F_KIND);
            if (kind == WHOLE) {
                doing = MATCHED;
                return;
            }
            piece = frames.get(inner, F_PIECE);
            frame = frames.get(inner, F_PARENT);
            switch (kind) {
                case OF_TURN:
                    endTurn(inner);
                    break;
                case Pattern.GROUP:
                    setGroup(pattern.of(piece, Pattern.NUMBER), frames.get(inner, F_PLACE));
                    pass();
                    break;
                case Pattern.CALL:
                    sets = frames.get(inner, F_SETS);
                    pass();
                    break;
                case Pattern.ATOMIC:
                    choices.cutTo(frames.get(inner, F_HEIGHT));
                    pass();
                    break;
                case Pattern.AHEAD:
                case Pattern.NOT_AHEAD:
                    endLook(inner, kind == Pattern.NOT_AHEAD);
                    break;
                case Pattern.BEHIND:
                case Pattern.NOT_BEHIND:
                    if (place != frames.get(inner, F_PLACE)) {
                        doing = DO_BACK;
                    } else {
                        endLook(inner, kind == Pattern.NOT_BEHIND);
                    }
                    break;
                default:
                    pass();
                    break;
            }
        }

        private void endTurn(int inner) {
            turn = frames.get(inner, F_TURN);
            if (place != frames.get(inner, F_PLACE)) {
                doing = DO_COUNT;
            } else if (turn <= pattern.of(piece, Pattern.LEAST)) {
                doing = DO_LEAVE;
            } else {
                doing = DO_BACK;
            }
        }

        private void endLook(int inner, boolean isNot) {
            int height = frames.get(inner, F_HEIGHT);
            if (isNot) {
                // The choice just below the frame would let the look pass.
                choices.cutTo(height - 1);
                doing = DO_BACK;
            } else {
                choices.cutTo(height);
                place = frames.get(inner, F_PLACE);
                pass();
            }
        }

        private void setGroup(int group, int begin) {
            int row = settings.add();
            settings.put(row, SET_GROUP, group);
            settings.put(row, SET_BEGIN, begin);
            settings.put(row, SET_END, place);
            settings.put(row, SET_BEFORE, sets);
            sets = row;
        }

        private int settingOf(int group) {
            int row = sets;
            for (int k = 0; k <= settings.size() && row != NONE; k++) {
                if (settings.get(row, SET_GROUP) == group) {
                    return row;
                }
                row = settings.get(row, SET_BEFORE);
            }
            return NONE;
        }

        /** Backs up to the latest choice. */
        private void doBack() {
            int top = choices.size() - 1;
            if (top < 0) {
                doing = LOST;
                return;
            }
            doing = choices.get(top, C_DOING);
            piece = choices.get(top, C_PIECE);
            turn = choices.get(top, C_TURN);
            place = choices.get(top, C_PLACE);
            frame = choices.get(top, C_FRAME);
            sets = choices.get(top, C_SETS);
            settings.cutTo(choices.get(top, C_SET_COUNT));
            choices.cutTo(top);
            if (doing == DO_BRANCH) {
                branch = piece;
            } else if (doing == PASS_LOOK) {
                pass();
            } else if (doing == BACK_OVER_CUT) {
                backOverCut(pattern.of(piece, Pattern.NUMBER));
            }
        }

        /** Drops the choices up to where the cut lets go on; all that is left then is backed up. */
        private void backOverCut(int kind) {
            doing = DO_BACK;
            int outer = frame;
            for (int k = 0; k <= frames.size() && outer != NONE; k++) {
                int branchAt = frames.get(outer, F_BRANCH_AT);
                if (kind == 'T' && branchAt != NONE) {
                    choices.cutTo(branchAt + 1);
                    return;
                }
                if (holdsCuts(frames.get(outer, F_KIND))) {
                    choices.cutTo(frames.get(outer, F_HEIGHT));
                    return;
                }
                outer = frames.get(outer, F_PARENT);
            }
            cut = kind;
            cutPlace = place;
            doing = LOST;
        }

        private static boolean holdsCuts(int kind) {
            switch (kind) {
                case Pattern.AHEAD:
                case Pattern.NOT_AHEAD:
                case Pattern.BEHIND:
                case Pattern.NOT_BEHIND:
                case Pattern.ATOMIC:
                case Pattern.CALL:
                case OF_POSSESSIVE:
                    return true;
                default:
                    return false;
            }
        }
    }

    /**
     * A plain pattern as a row of steps, its counts written out. A key goes along with the steps:
     * 1, and behind it a digit for each turn around that has taken no sign yet, the innermost one
     * last, 1 if it is needed. If an outer turn has taken none, no inner one has, so this is all.
     */
    static final class Program {
        static final int EAT = 0;
        static final int EDGE = 1;
        static final int SPLIT = 2;
        static final int JUMP = 3;
        static final int OPEN = 4;
        static final int CLOSE = 5;
        static final int TURN = 6;
        static final int TURN_END = 7;
        static final int ACCEPT = 8;

        static final int FRESH_KEY = 1;

        // The columns of a step. The base: where its keys begin among the marks.
        private static final int OP = 0;
        private static final int TO = 1;
        private static final int OR_TO = 2;
        private static final int NUMBER = 3;
        private static final int SET_LOW = 4;
        private static final int SET_HIGH = 5;
        private static final int BASE = 6;

        // Above what any plain pattern of 32 signs needs: some 1,600 steps and 93,000 marks, counted
        // over all shapes of patterns, as if there were no bound of the groups.
        static final int STEPS = 4096;
        static final int MARKS = 131072;

        private final Table steps = new Table(7, STEPS);
        private Pattern pattern;
        private int level;
        private int marks;

        void compile(Pattern plain) {
            pattern = plain;
            steps.cutTo(0);
            level = 0;
            marks = 0;
            writeBody(pattern.root, 0);
            write(ACCEPT);
        }

        int size() {
            return steps.size();
        }

        int marks() {
            return marks;
        }

        int op(int step) {
            return steps.get(step, OP);
        }

        int number(int step) {
            return steps.get(step, NUMBER);
        }

        long set(int step) {
            return Pattern.joined(steps.get(step, SET_LOW), steps.get(step, SET_HIGH));
        }

        int mark(int step, int key) {
            return steps.get(step, BASE) + key;
        }

        int to(int step) {
            return steps.get(step, TO);
        }

        int orTo(int step) {
            return steps.get(step, OR_TO);
        }

        /** Where a step that takes no sign goes on first; NONE if it fails. */
        int first(int step, int key, Text text, int place) {
            switch (op(step)) {
                case EDGE:
                    return text.holds(number(step), place) ? step + 1 : NONE;
                case SPLIT:
                case JUMP:
                    return to(step);
                case TURN_END:
                    if (key <= FRESH_KEY) {
                        return to(step);
                    }
                    return (key & 1) == 1 ? orTo(step) : NONE;
                default:
                    return step + 1;
            }
        }

        /** Where it goes on otherwise. */
        int second(int step) {
            return op(step) == SPLIT ? orTo(step) : NONE;
        }

        int keyBehind(int step, int key) {
            int op = op(step);
            if (op == TURN) {
                return key * 2 + number(step);
            }
            return op == TURN_END && key > FRESH_KEY ? key >> 1 : key;
        }

        private int write(int op) {
            int step = steps.add();
            steps.put(step, OP, op);
            steps.put(step, TO, NONE);
            steps.put(step, OR_TO, NONE);
            steps.put(step, NUMBER, NONE);
            steps.put(step, BASE, marks);
            marks += 2 << level;
            return step;
        }

        private int writeNumbered(int op, int number) {
            int step = write(op);
            steps.put(step, NUMBER, number);
            return step;
        }

        private void writeBody(int body, int depth) {
            int branch = body;
            int jump = NONE;
            for (int k = 0; k <= DRAFT_MOST && branch != NONE; k++) {
                int next = pattern.nextBranch(branch);
                int split = next == NONE ? NONE : write(SPLIT);
                writeRow(pattern.firstPiece(branch), depth);
                if (next != NONE) {
                    int former = jump;
                    jump = write(JUMP);
                    // A chain of the jumps whose end is not known yet.
                    steps.put(jump, TO, former);
                    steps.put(split, TO, split + 1);
                    steps.put(split, OR_TO, steps.size());
                }
                branch = next;
            }
            for (int k = 0; k <= DRAFT_MOST && jump != NONE; k++) {
                int former = to(jump);
                steps.put(jump, TO, steps.size());
                jump = former;
            }
        }

        private void writeRow(int first, int depth) {
            int piece = first;
            for (int k = 0; k <= DRAFT_MOST && piece != NONE; k++) {
                if (pattern.of(piece, Pattern.MANNER) == Pattern.ONCE) {
                    writeAtom(piece, depth);
                } else if (Shape.canBeEmpty(pattern, piece)) {
                    writeLooseCount(piece, depth);
                } else {
                    writeCount(piece, depth);
                }
                piece = pattern.of(piece, Pattern.NEXT);
            }
        }

        private void writeAtom(int piece, int depth) {
            if (depth > DEPTH_MOST) {
                return;
            }
            int kind = pattern.of(piece, Pattern.KIND);
            int number = pattern.of(piece, Pattern.NUMBER);
            if (kind == Pattern.SIGN) {
                int step = write(EAT);
                steps.put(step, SET_LOW, pattern.of(piece, Pattern.SET_LOW));
                steps.put(step, SET_HIGH, pattern.of(piece, Pattern.SET_HIGH));
            } else if (Shape.isEdge(kind)) {
                writeNumbered(EDGE, kind);
            } else if (kind == Pattern.GROUP) {
                writeNumbered(OPEN, number);
                writeBody(pattern.of(piece, Pattern.BODY), depth + 1);
                writeNumbered(CLOSE, number);
            } else {
                writeBody(pattern.of(piece, Pattern.BODY), depth + 1);
            }
        }

        private void link(int split, int turn, int out, boolean isLazy) {
            steps.put(split, TO, isLazy ? out : turn);
            steps.put(split, OR_TO, isLazy ? turn : out);
        }

        /** A count whose turns always take a sign. */
        private void writeCount(int piece, int depth) {
            boolean isLazy = pattern.of(piece, Pattern.MANNER) == Pattern.LAZY;
            int least = pattern.of(piece, Pattern.LEAST);
            int most = pattern.of(piece, Pattern.MOST);
            int last = NONE;
            for (int k = 0; k < least; k++) {
                last = steps.size();
                writeAtom(piece, depth);
            }
            if (most == Pattern.WITHOUT_END) {
                int split = write(SPLIT);
                if (last == NONE) {
                    writeAtom(piece, depth);
                    steps.put(write(JUMP), TO, split);
                    last = split + 1;
                }
                link(split, last, last > split ? steps.size() : split + 1, isLazy);
                return;
            }
            int chain = NONE;
            for (int k = least; k < most; k++) {
                int split = write(SPLIT);
                steps.put(split, TO, chain);
                chain = split;
                writeAtom(piece, depth);
            }
            for (int k = least; k < most && chain != NONE; k++) {
                int former = to(chain);
                link(chain, chain + 1, steps.size(), isLazy);
                chain = former;
            }
        }

        /** A count whose turns may take no sign; then none but 0 and 1 are told in it. */
        private void writeLooseCount(int piece, int depth) {
            boolean isLazy = pattern.of(piece, Pattern.MANNER) == Pattern.LAZY;
            int least = pattern.of(piece, Pattern.LEAST);
            boolean isEndless = pattern.of(piece, Pattern.MOST) == Pattern.WITHOUT_END;
            if (least == 1 && !isEndless) {
                writeAtom(piece, depth);
                return;
            }
            int jump = NONE;
            if (least == 1) {
                writeNumbered(TURN, 1);
                level++;
                jump = write(JUMP);
                level--;
            }
            int split = write(SPLIT);
            writeNumbered(TURN, 0);
            level++;
            steps.put(jump, TO, steps.size());
            writeAtom(piece, depth);
            int end = write(TURN_END);
            level--;
            steps.put(end, TO, isEndless ? split : end + 1);
            steps.put(end, OR_TO, end + 1);
            link(split, split + 1, end + 1, isLazy);
        }
    }

    /** Follows all ways through a program at once, sign by sign; an earlier way comes first. */
    static final class Sets {
        // The columns of a thread: the step at which it waits for a sign, and its groups.
        private static final int THREAD_STEP = 0;
        private static final int THREAD_WIDTH = 1 + 2 * (GROUP_MOST + 1);
        private static final int THREADS = 32;

        // The columns of what is still to be followed; a bound to be put back has a slot.
        private static final int OPEN_STEP = 0;
        private static final int OPEN_KEY = 1;
        private static final int OPEN_SLOT = 2;

        private final Table marks = new Table(1, Program.MARKS);
        private final Table waiting = new Table(1, Program.STEPS);
        private final Table open = new Table(3, Program.MARKS);
        private final Table bounds = new Table(1, THREAD_WIDTH);
        private final Table best = new Table(1, THREAD_WIDTH);
        private final Table alive = new Table(1, Program.STEPS);
        private Table threads = new Table(THREAD_WIDTH, THREADS);
        private Table former = new Table(THREAD_WIDTH, THREADS);
        private int stamp;
        private Program program;
        private Text text;
        private boolean stopsAtFirst;
        private boolean isAccepted;
        private int end;

        /** Whether the text of the latest run could have a match to its end, with signs behind it or none. */
        boolean canGoOn() {
            if (end == text.size()) {
                return true;
            }
            findAlive();
            for (int k = 0; k < threads.size(); k++) {
                if (isAlive(threads.get(k, THREAD_STEP))) {
                    return true;
                }
            }
            return false;
        }

        int bound(int group, int column) {
            return best.get(2 * group + column, 0);
        }

        /** Returns the end of the match that backing up would find first, or of the longest one. */
        int run(Program newProgram, Text newText, int from, boolean isFirst) {
            program = newProgram;
            text = newText;
            stopsAtFirst = isFirst;
            end = NONE;
            marks.reach(program.marks());
            waiting.reach(program.size());
            bounds.reach(THREAD_WIDTH);
            best.reach(THREAD_WIDTH);
            threads.cutTo(0);
            stamp++;
            for (int slot = 0; slot < THREAD_WIDTH; slot++) {
                bounds.put(slot, 0, NONE);
            }
            follow(0, from);
            for (int place = from; place < text.size(); place++) {
                takeSign(place);
            }
            return end;
        }

        private void takeSign(int place) {
            Table swapped = former;
            former = threads;
            threads = swapped;
            threads.cutTo(0);
            stamp++;
            int code = text.codeAt(place);
            for (int k = 0; k < former.size(); k++) {
                int step = former.get(k, THREAD_STEP);
                if (!Signs.has(program.set(step), code)) {
                    continue;
                }
                for (int slot = 2; slot < THREAD_WIDTH - 1; slot++) {
                    bounds.put(slot, 0, former.get(k, slot));
                }
                follow(step + 1, place + 1);
                if (stopsAtFirst && isAccepted) {
                    return;
                }
            }
        }

        /** Follows all that can be reached from a step without a sign, the first ways first. */
        private void follow(int step, int place) {
            isAccepted = false;
            open.cutTo(0);
            leaveOpen(step, Program.FRESH_KEY, NONE);
            for (int k = 0; k < STEPS_MOST && open.size() > 0; k++) {
                int top = open.size() - 1;
                int next = open.get(top, OPEN_STEP);
                int key = open.get(top, OPEN_KEY);
                int slot = open.get(top, OPEN_SLOT);
                open.cutTo(top);
                if (slot != NONE) {
                    bounds.put(slot, 0, key);
                } else {
                    visit(next, key, place);
                }
                if (stopsAtFirst && isAccepted) {
                    return;
                }
            }
        }

        private void leaveOpen(int step, int key, int slot) {
            int row = open.add();
            open.put(row, OPEN_STEP, step);
            open.put(row, OPEN_KEY, key);
            open.put(row, OPEN_SLOT, slot);
        }

        private void visit(int step, int key, int place) {
            int mark = program.mark(step, key);
            if (step == NONE || marks.get(mark, 0) == stamp) {
                return;
            }
            marks.put(mark, 0, stamp);
            int op = program.op(step);
            if (op == Program.EAT) {
                await(step);
                return;
            }
            if (op == Program.ACCEPT) {
                accept(place);
                return;
            }
            if (op == Program.OPEN || op == Program.CLOSE) {
                int slot = 2 * program.number(step) + (op == Program.CLOSE ? 1 : 0);
                leaveOpen(NONE, bounds.get(slot, 0), slot);
                bounds.put(slot, 0, place);
            }
            int behind = program.keyBehind(step, key);
            int second = program.second(step);
            if (second != NONE) {
                leaveOpen(second, behind, NONE);
            }
            int first = program.first(step, key, text, place);
            if (first != NONE) {
                leaveOpen(first, behind, NONE);
            }
        }

        // Behind its sign every turn around has taken one, so that the key is no matter.
        private void await(int step) {
            if (waiting.get(step, 0) == stamp) {
                return;
            }
            waiting.put(step, 0, stamp);
            int thread = threads.add();
            threads.put(thread, THREAD_STEP, step);
            for (int slot = 2; slot < THREAD_WIDTH - 1; slot++) {
                threads.put(thread, slot, bounds.get(slot, 0));
            }
        }

        private void accept(int place) {
            isAccepted = true;
            end = place;
            for (int slot = 2; slot < THREAD_WIDTH - 1; slot++) {
                best.put(slot, 0, bounds.get(slot, 0));
            }
        }

        /** Marks the steps from which signs of texts lead to the end. */
        private void findAlive() {
            int count = program.size();
            alive.reach(count);
            for (int step = 0; step < count; step++) {
                alive.put(step, 0, 0);
            }
            boolean hasChanged = true;
            for (int pass = 0; pass <= count && hasChanged; pass++) {
                hasChanged = false;
                for (int step = count - 1; step >= 0; step--) {
                    if (!isAlive(step) && leadsOn(step)) {
                        alive.put(step, 0, 1);
                        hasChanged = true;
                    }
                }
            }
        }

        private boolean isAlive(int step) {
            return alive.get(step, 0) == 1;
        }

        private boolean leadsOn(int step) {
            switch (program.op(step)) {
                case Program.ACCEPT:
                    return true;
                case Program.EAT:
                    return program.set(step) != 0L && isAlive(step + 1);
                case Program.JUMP:
                    return isAlive(program.to(step));
                case Program.SPLIT:
                case Program.TURN_END:
                    return isAlive(program.to(step)) || isAlive(program.orTo(step));
                default:
                    return isAlive(step + 1);
            }
        }
    }

    /** Counts the ways through a program, from the last place back to the first one. */
    static final class Counting {
        private static final int WAYS_MOST = 99;

        private static final int STAMP = 0;
        private static final int WAYS = 1;

        private static final int OPEN_STEP = 0;
        private static final int OPEN_KEY = 1;
        private static final int OPEN_IS_BEGUN = 2;

        private final Table marks = new Table(2, Program.MARKS);
        private final Table open = new Table(3, Program.MARKS);
        // Of each step that takes a sign: the ways behind it, at the next place and at this one.
        private final Table later = new Table(1, Program.STEPS);
        private final Table now = new Table(1, Program.STEPS);
        private int stamp;
        private Program program;
        private Text text;
        private int place;
        private int to;

        int count(Program newProgram, Text newText, int from, int newTo) {
            program = newProgram;
            text = newText;
            to = newTo;
            if (from > to) {
                return 0;
            }
            marks.reach(program.marks());
            later.reach(program.size());
            now.reach(program.size());
            for (int at = to; at > from; at--) {
                place = at;
                stamp++;
                countBehindSign();
            }
            place = from;
            stamp++;
            return waysFrom(0);
        }

        private void countBehindSign() {
            int code = text.codeAt(place - 1);
            for (int step = 0; step < program.size(); step++) {
                boolean eats = program.op(step) == Program.EAT && Signs.has(program.set(step), code);
                now.put(step, 0, eats ? waysFrom(step + 1) : 0);
            }
            for (int step = 0; step < program.size(); step++) {
                later.put(step, 0, now.get(step, 0));
            }
        }

        /** The ways from a step and the place at hand on. */
        private int waysFrom(int step) {
            open.cutTo(0);
            leaveOpen(step, Program.FRESH_KEY);
            for (int k = 0; k < STEPS_MOST && open.size() > 0; k++) {
                int top = open.size() - 1;
                if (open.get(top, OPEN_IS_BEGUN) == 1) {
                    finish(open.get(top, OPEN_STEP), open.get(top, OPEN_KEY));
                    open.cutTo(top);
                } else {
                    begin(top);
                }
            }
            return known(step, Program.FRESH_KEY);
        }

        private void leaveOpen(int step, int key) {
            int row = open.add();
            open.put(row, OPEN_STEP, step);
            open.put(row, OPEN_KEY, key);
            open.put(row, OPEN_IS_BEGUN, 0);
        }

        /** Opens what must be known for the step on top. */
        private void begin(int top) {
            int step = open.get(top, OPEN_STEP);
            int key = open.get(top, OPEN_KEY);
            int mark = program.mark(step, key);
            if (marks.get(mark, STAMP) == stamp) {
                open.cutTo(top);
                return;
            }
            int op = program.op(step);
            if (op == Program.ACCEPT || op == Program.EAT) {
                keep(mark, op == Program.EAT ? (place < to ? later.get(step, 0) : 0) : (place == to ? 1 : 0));
                open.cutTo(top);
                return;
            }
            open.put(top, OPEN_IS_BEGUN, 1);
            int behind = program.keyBehind(step, key);
            int first = program.first(step, key, text, place);
            int second = program.second(step);
            if (first != NONE) {
                leaveOpen(first, behind);
            }
            if (second != NONE) {
                leaveOpen(second, behind);
            }
        }

        private void finish(int step, int key) {
            int behind = program.keyBehind(step, key);
            int ways = known(program.first(step, key, text, place), behind) + known(program.second(step), behind);
            keep(program.mark(step, key), Math.min(WAYS_MOST, ways));
        }

        private void keep(int mark, int ways) {
            marks.put(mark, STAMP, stamp);
            marks.put(mark, WAYS, ways);
        }

        private int known(int step, int key) {
            if (step == NONE) {
                return 0;
            }
            int mark = program.mark(step, key);
            return marks.get(mark, STAMP) == stamp ? marks.get(mark, WAYS) : 0;
        }
    }
}
