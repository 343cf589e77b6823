/**
 * Policies as texts: counters with rules, nodes with ways, tests of arguments and counters; read
 * with the first fault and its place, printed in one way, and asked what is true of a call.
 */
public final class PolicyText {
    public static final int NONE = -1;

    private static final int TEXT_ROOM = 4096;
    private static final int PRINT_ROOM = 8192;

    private static final int MOST_COUNTERS = 6;
    private static final int MOST_NODES = 24;
    private static final int MOST_RULES = 4;
    private static final int MOST_WAYS = 8;
    private static final int MOST_TESTS = 4;
    private static final int MOST_LETTERS = 12;
    private static final int MOST_TOP = 15;

    private static final int CALLS = 16;
    private static final int ANY = 16;
    private static final int ARGUMENTS = 3;

    private static final int ZERO = 0;
    private static final int UP = 1;

    private static final int LESS = 0;
    private static final int SAME = 1;
    private static final int MORE = 2;

    private static final int COUNTER_TOP = 0;
    private static final int COUNTER_RULES = 1;
    private static final int COUNTER_STAND = 2;
    private static final int COUNTER_LETTERS = 3;

    private static final int NODE_WAYS = 0;
    private static final int NODE_LETTERS = 1;

    private static final int CLAUSE_CALL = 0;
    private static final int CLAUSE_TESTS = 1;
    private static final int CLAUSE_GOAL = 2;

    private static final int TEST_COUNTED = 0;
    private static final int TEST_WHICH = 1;
    private static final int TEST_OP = 2;
    private static final int TEST_TURNED = 3;

    private static final int LETTER_BITS = 5;
    private static final int LETTER_MASK = 31;
    private static final long NAME_A = 1L;

    private final Bytes text;
    private final Reader reader;
    private final Call current;
    private Bytes printed;
    private Bytes draft;
    private Policy policy;
    private Policy spare;

    public PolicyText() {
        text = new Bytes(TEXT_ROOM);
        printed = new Bytes(PRINT_ROOM);
        draft = new Bytes(PRINT_ROOM);
        policy = new Policy();
        spare = new Policy();
        reader = new Reader(text, spare);
        current = new Call();
        policy.addHead(true, NAME_A);
    }

    public boolean give(long v, int n) {
        if (n < 1 || n > 8 || n > text.free()) {
            return false;
        }
        for (int shift = 8 * (n - 1); shift >= 0; shift -= 8) {
            text.add((int) (v >>> shift));
        }
        return true;
    }

    public boolean cut(int n) {
        return text.shorten(n);
    }

    public boolean poke(int k, int b) {
        return text.put(k, b);
    }

    public int read() {
        int fault = reader.readInto(spare);
        if (fault == 0) {
            Policy old = policy;
            policy = spare;
            spare = old;
        }
        return fault;
    }

    public int print() {
        draft.shorten(0);
        Printer printer = new Printer(policy, draft);
        for (int k = 0; k < policy.heads(false); k++) {
            printer.writeCounter(k);
        }
        for (int k = 0; k < policy.heads(true); k++) {
            printer.writeNode(k);
        }
        if (!printer.hasFitted()) {
            return NONE;
        }
        Bytes old = printed;
        printed = draft;
        draft = old;
        return printed.size();
    }

    public boolean turnOver() {
        return text.become(printed);
    }

    public boolean stand(int k, int v) {
        return policy.setStand(k, v);
    }

    public int counter(int k, int what) {
        return policy.counterPart(k, what);
    }

    public int node(int k, int what) {
        return policy.nodePart(k, what);
    }

    public int clause(boolean ways, int k, int j, int what) {
        return policy.clausePart(ways, k, j, what);
    }

    public int test(boolean ways, int k, int j, int i, int what) {
        return policy.testPart(policy.testRow(ways, k, j, i), what);
    }

    public int than(boolean ways, int k, int j, int i) {
        return policy.boundOf(policy.testRow(ways, k, j, i));
    }

    public boolean call(int number, int a, int b, int c) {
        if (number < 0 || number >= CALLS) {
            return false;
        }
        current.become(number, a, b, c);
        return true;
    }

    public boolean holds(boolean ways, int k, int j) {
        return policy.applies(ways, k, j, current);
    }

    public int make(int k) {
        int reached = policy.reachedFrom(k, current);
        if (reached != NONE) {
            policy.moveCounters(current);
        }
        return reached;
    }

    public int byteAt(int k, boolean text) {
        return text ? this.text.at(k) : printed.at(k);
    }

    public int look(int which) {
        switch (which) {
            case 0:
                return policy.heads(false);
            case 1:
                return policy.heads(true);
            case 2:
                return text.size();
            case 3:
                return printed.size();
            case 4:
                return reader.latestFault();
            case 5:
                return reader.latestPlace();
            case 6:
                return policy.testsInAll();
            default:
                return NONE;
        }
    }

    /** A row of bytes with a limit, eight of them in a long so that an object stays small. */
    private static final class Bytes {
        private final long[] words;
        private final int room;
        private int length;

        Bytes(int room) {
            this.room = Math.max(room, 0);
            words = new long[this.room / 8 + 1];
            length = 0;
        }

        int size() {
            return length;
        }

        int free() {
            return room - length;
        }

        int at(int k) {
            if (k < 0 || k >= length) {
                return NONE;
            }
            return (int) (words[k >> 3] >>> (8 * (k & 7))) & 255;
        }

        boolean put(int k, int b) {
            if (k < 0 || k >= length) {
                return false;
            }
            int shift = 8 * (k & 7);
            long others = words[k >> 3] & ~(255L << shift);
            words[k >> 3] = others | (long) (b & 255) << shift;
            return true;
        }

        boolean add(int b) {
            if (length >= room) {
                return false;
            }
            length++;
            return put(length - 1, b);
        }

        boolean shorten(int n) {
            if (n < 0 || n > length) {
                return false;
            }
            length = n;
            return true;
        }

        boolean become(Bytes other) {
            if (other.length > room) {
                return false;
            }
            System.arraycopy(other.words, 0, words, 0, other.length / 8 + 1);
            length = other.length;
            return true;
        }
    }

    /** The CALL that tests are asked of. */
    private static final class Call {
        private int number;
        private int first;
        private int second;
        private int third;

        void become(int number, int a, int b, int c) {
            this.number = number;
            first = a;
            second = b;
            third = c;
        }

        boolean isOf(int number) {
            return number == ANY || number == this.number;
        }

        boolean has(int i) {
            return i >= 0 && i < argumentsOf(number);
        }

        int argument(int i) {
            if (i == 0) {
                return first;
            }
            return i == 1 ? second : third;
        }

        static int argumentsOf(int number) {
            return number == ANY ? ARGUMENTS : number & 3;
        }
    }

    /**
     * One POLICY in rows of fixed places: COUNTERS and NODES are heads, RULES and WAYS their
     * clauses. A place follows from the numbers k, j and i alone, so nothing is made while reading.
     */
    private static final class Policy {
        private static final int HEADS = MOST_COUNTERS + MOST_NODES;
        private static final int FIRST_WAY = MOST_COUNTERS * MOST_RULES;
        private static final int CLAUSES = FIRST_WAY + MOST_NODES * MOST_WAYS;
        private static final int TESTS = CLAUSES * MOST_TESTS;

        private int counters;
        private int nodes;
        private int tests;
        private final long[] names;
        private final int[] clauseCounts;
        private final int[] tops;
        private final int[] stands;
        private final int[] later;
        private final int[] calls;
        private final int[] goals;
        private final int[] testCounts;
        private final int[] shapes;
        private final int[] bounds;

        Policy() {
            names = new long[HEADS];
            clauseCounts = new int[HEADS];
            tops = new int[MOST_COUNTERS];
            stands = new int[MOST_COUNTERS];
            later = new int[MOST_COUNTERS];
            calls = new int[CLAUSES];
            goals = new int[CLAUSES];
            testCounts = new int[CLAUSES];
            shapes = new int[TESTS];
            bounds = new int[TESTS];
        }

        int heads(boolean ways) {
            return ways ? nodes : counters;
        }

        int testsInAll() {
            return tests;
        }

        int headRow(boolean ways, int k) {
            if (k < 0 || k >= (ways ? nodes : counters)) {
                return NONE;
            }
            return ways ? MOST_COUNTERS + k : k;
        }

        int clauseRow(boolean ways, int k, int j) {
            int head = headRow(ways, k);
            if (head == NONE || j < 0 || j >= clauseCounts[head]) {
                return NONE;
            }
            return ways ? FIRST_WAY + k * MOST_WAYS + j : k * MOST_RULES + j;
        }

        int testRow(boolean ways, int k, int j, int i) {
            int clause = clauseRow(ways, k, j);
            if (clause == NONE || i < 0 || i >= testCounts[clause]) {
                return NONE;
            }
            return clause * MOST_TESTS + i;
        }

        int counterPart(int k, int what) {
            int head = headRow(false, k);
            if (head == NONE) {
                return NONE;
            }
            switch (what) {
                case COUNTER_TOP:
                    return tops[head];
                case COUNTER_RULES:
                    return clauseCounts[head];
                case COUNTER_STAND:
                    return stands[head];
                case COUNTER_LETTERS:
                    return lettersOf(names[head]);
                default:
                    return NONE;
            }
        }

        int nodePart(int k, int what) {
            int head = headRow(true, k);
            if (head == NONE) {
                return NONE;
            }
            switch (what) {
                case NODE_WAYS:
                    return clauseCounts[head];
                case NODE_LETTERS:
                    return lettersOf(names[head]);
                default:
                    return NONE;
            }
        }

        int clausePart(boolean ways, int k, int j, int what) {
            int row = clauseRow(ways, k, j);
            if (row == NONE) {
                return NONE;
            }
            switch (what) {
                case CLAUSE_CALL:
                    return calls[row];
                case CLAUSE_TESTS:
                    return testCounts[row];
                case CLAUSE_GOAL:
                    return goals[row];
                default:
                    return NONE;
            }
        }

        int testPart(int row, int what) {
            return row >= 0 && row < TESTS ? partOf(shapes[row], what) : NONE;
        }

        int boundOf(int row) {
            return row >= 0 && row < TESTS ? bounds[row] : 0;
        }

        long nameOf(boolean ways, int k) {
            int head = headRow(ways, k);
            return head == NONE ? 0L : names[head];
        }

        int find(boolean ways, long name) {
            int first = ways ? MOST_COUNTERS : 0;
            for (int k = 0; k < heads(ways); k++) {
                if (names[first + k] == name) {
                    return k;
                }
            }
            return NONE;
        }

        void clear() {
            counters = 0;
            nodes = 0;
            tests = 0;
        }

        boolean canAddHead(boolean ways) {
            return ways ? nodes < MOST_NODES : nodes == 0 && counters < MOST_COUNTERS;
        }

        void addHead(boolean ways, long name) {
            if (!canAddHead(ways)) {
                return;
            }
            int head = ways ? MOST_COUNTERS + nodes : counters;
            names[head] = name;
            clauseCounts[head] = 0;
            if (ways) {
                nodes++;
                return;
            }
            tops[head] = 0;
            stands[head] = 0;
            counters++;
        }

        void setTopOfLast(int top) {
            int head = headRow(false, counters - 1);
            if (head != NONE) {
                tops[head] = top;
            }
        }

        boolean canAddClause(boolean ways) {
            int head = headRow(ways, heads(ways) - 1);
            return head != NONE && clauseCounts[head] < (ways ? MOST_WAYS : MOST_RULES);
        }

        /** Adds to the last head; answers the clause's row. */
        int addClause(boolean ways, int number, int goal) {
            int k = heads(ways) - 1;
            int head = headRow(ways, k);
            if (head == NONE || !canAddClause(ways)) {
                return NONE;
            }
            clauseCounts[head]++;
            int row = clauseRow(ways, k, clauseCounts[head] - 1);
            if (row != NONE) {
                calls[row] = number;
                goals[row] = goal;
                testCounts[row] = 0;
            }
            return row;
        }

        boolean canAddTest(int clause) {
            return clause >= 0 && clause < CLAUSES && testCounts[clause] < MOST_TESTS;
        }

        /** Answers the row of the TEST. */
        int addTest(int clause, int shape, int bound) {
            if (!canAddTest(clause)) {
                return NONE;
            }
            int row = clause * MOST_TESTS + testCounts[clause];
            shapes[row] = shape;
            bounds[row] = bound;
            testCounts[clause]++;
            tests++;
            return row;
        }

        void setGoal(int clause, int goal) {
            if (clause >= 0 && clause < CLAUSES) {
                goals[clause] = goal;
            }
        }

        void setWhich(int row, int which) {
            if (row >= 0 && row < TESTS) {
                shapes[row] = shapes[row] & ~7 | which & 7;
            }
        }

        boolean setStand(int k, int v) {
            int head = headRow(false, k);
            if (head == NONE || v < 0 || v > tops[head]) {
                return false;
            }
            stands[head] = v;
            return true;
        }

        boolean applies(boolean ways, int k, int j, Call made) {
            int row = clauseRow(ways, k, j);
            if (row == NONE || !made.isOf(calls[row])) {
                return false;
            }
            for (int i = 0; i < testCounts[row]; i++) {
                if (!isTrue(row * MOST_TESTS + i, made)) {
                    return false;
                }
            }
            return true;
        }

        private boolean isTrue(int row, Call made) {
            int which = testPart(row, TEST_WHICH);
            int op = testPart(row, TEST_OP);
            boolean plain;
            if (testPart(row, TEST_COUNTED) == 1) {
                int stand = counterPart(which, COUNTER_STAND);
                plain = stand != NONE && compares(stand, op, boundOf(row));
            } else {
                plain = made.has(which) && compares(made.argument(which), op, boundOf(row));
            }
            return plain != (testPart(row, TEST_TURNED) == 1);
        }

        /** How many different NODES; WAYS to the same one lead to one. */
        int reachedFrom(int k, Call made) {
            int head = headRow(true, k);
            if (head == NONE) {
                return NONE;
            }
            int reached = 0;
            for (int j = 0; j < clauseCounts[head]; j++) {
                if (applies(true, k, j, made)) {
                    reached |= 1 << clausePart(true, k, j, CLAUSE_GOAL);
                }
            }
            return Integer.bitCount(reached);
        }

        /** All RULES are asked before any COUNTER moves, since they test COUNTERS themselves. */
        void moveCounters(Call made) {
            for (int k = 0; k < counters; k++) {
                later[k] = standAfter(k, made);
            }
            for (int k = 0; k < counters; k++) {
                stands[k] = later[k];
            }
        }

        private int standAfter(int k, Call made) {
            int stand = counterPart(k, COUNTER_STAND);
            int rules = counterPart(k, COUNTER_RULES);
            for (int j = 0; j < rules; j++) {
                if (applies(false, k, j, made)) {
                    boolean up = clausePart(false, k, j, CLAUSE_GOAL) == UP;
                    return up ? Math.min(stand + 1, counterPart(k, COUNTER_TOP)) : 0;
                }
            }
            return stand;
        }

        private static boolean compares(int value, int op, int bound) {
            if (op == LESS) {
                return value < bound;
            }
            return op == SAME ? value == bound : value > bound;
        }

        private static int lettersOf(long name) {
            int letters = 0;
            for (int shift = 0; shift < MOST_LETTERS * LETTER_BITS; shift += LETTER_BITS) {
                if ((name >> shift & LETTER_MASK) != 0) {
                    letters++;
                }
            }
            return letters;
        }

        /** A TEST but for its NUMBER in one int: there is room for many TESTS, and few are used. */
        static int shapeOf(boolean counted, int which, int op, boolean turned) {
            return which & 7 | (op & 3) << 3 | (counted ? 32 : 0) | (turned ? 64 : 0);
        }

        private static int partOf(int shape, int what) {
            switch (what) {
                case TEST_COUNTED:
                    return shape >> 5 & 1;
                case TEST_WHICH:
                    return shape & 7;
                case TEST_OP:
                    return shape >> 3 & 3;
                case TEST_TURNED:
                    return shape >> 6 & 1;
                default:
                    return NONE;
            }
        }
    }

    /** The TOKENS of the TEXT, one at a time. A NAME is held as a long, five bits a letter. */
    private static final class Tokens {
        static final int END = 0;
        static final int OPEN = 1;
        static final int CLOSE = 2;
        static final int NAME = 3;
        static final int NUMBER = 4;
        static final int BROKEN = 5;

        private static final long HIGHEST = 2147483647L;

        private final Bytes source;
        private int at;
        private int kind;
        private int place;
        private long name;
        private int number;

        Tokens(Bytes source) {
            this.source = source;
            restart();
        }

        void restart() {
            at = 0;
            kind = END;
            place = 0;
            name = 0L;
            number = 0;
        }

        boolean isA(int kind) {
            return this.kind == kind;
        }

        int place() {
            return place;
        }

        long name() {
            return name;
        }

        int number() {
            return number;
        }

        boolean isNumber(int from, int to) {
            return kind == NUMBER && number >= from && number <= to;
        }

        boolean isWord(String word) {
            if (kind != NAME || at - place != word.length()) {
                return false;
            }
            for (int i = 0; i < word.length(); i++) {
                if (source.at(place + i) != word.charAt(i)) {
                    return false;
                }
            }
            return true;
        }

        /** A NAME that a COUNTER or NODE can have. */
        boolean isFreeName() {
            boolean opens = isWord("counter") || isWord("up") || isWord("zero") || isWord("node")
                    || isWord("go") || isWord("arg") || isWord("count") || isWord("not");
            boolean says = isWord("any") || isWord("less") || isWord("same") || isWord("more");
            return kind == NAME && !opens && !says;
        }

        int opNumber() {
            if (isWord("less")) {
                return LESS;
            }
            if (isWord("same")) {
                return SAME;
            }
            return isWord("more") ? MORE : NONE;
        }

        void advance() {
            while (at < source.size() && isBlank(source.at(at))) {
                at++;
            }
            place = at;
            int b = source.at(at);
            if (b == NONE) {
                kind = END;
            } else if (inWord(b)) {
                takeWord();
            } else {
                at++;
                kind = b == '(' ? OPEN : b == ')' ? CLOSE : BROKEN;
            }
        }

        private void takeWord() {
            while (at < source.size() && inWord(source.at(at))) {
                at++;
            }
            if (takeName()) {
                kind = NAME;
            } else {
                kind = takeNumber() ? NUMBER : BROKEN;
            }
        }

        private boolean takeName() {
            for (int i = place; i < at; i++) {
                if (!isLetter(source.at(i))) {
                    return false;
                }
            }
            name = nameAt(place);
            return at - place <= MOST_LETTERS;
        }

        /** The NAME that begins there. */
        long nameAt(int from) {
            long packed = 0L;
            for (int i = from; i < from + MOST_LETTERS && isLetter(source.at(i)); i++) {
                packed = packed << LETTER_BITS | source.at(i) - 'a' + 1;
            }
            return packed;
        }

        private boolean takeNumber() {
            boolean below = source.at(place) == '-';
            int first = below ? place + 1 : place;
            long most = below ? HIGHEST + 1 : HIGHEST;
            long value = 0L;
            for (int i = first; i < at; i++) {
                int b = source.at(i);
                if (!isDigit(b)) {
                    return false;
                }
                value = value * 10 + (b - '0');
                if (value > most) {
                    return false;
                }
            }
            number = (int) (below ? -value : value);
            return first < at;
        }

        private static boolean isBlank(int b) {
            return b == ' ' || b == '\n';
        }

        private static boolean isLetter(int b) {
            return b >= 'a' && b <= 'z';
        }

        private static boolean isDigit(int b) {
            return b >= '0' && b <= '9';
        }

        private static boolean inWord(int b) {
            return isLetter(b) || isDigit(b) || b == '-';
        }
    }

    /**
     * Reads the TEXT into a POLICY. A state says which TOKEN has to come, so that (not can stand in
     * (not as often as the TEXT has room for without calls within calls.
     */
    private static final class Reader {
        private static final int NO_TOKEN = 1;
        private static final int WRONG_TOKEN = 2;
        private static final int TOO_SHORT = 3;
        private static final int NO_NODE = 4;
        private static final int NOT_THERE = 5;
        private static final int NO_ARGUMENT = 6;

        private static final int WRONG = -1;
        private static final int DONE = 0;
        private static final int AT_TOP = 1;
        private static final int AT_HEAD = 2;
        private static final int AT_COUNTER_NAME = 3;
        private static final int AT_COUNTER_TOP = 4;
        private static final int AT_NODE_NAME = 5;
        private static final int IN_HEAD = 6;
        private static final int AT_CLAUSE = 7;
        private static final int AT_CALL = 8;
        private static final int IN_CLAUSE = 9;
        private static final int BEHIND_GOAL = 10;
        private static final int AT_TEST = 11;
        private static final int BEHIND_NOT = 12;
        private static final int AT_ARGUMENT = 13;
        private static final int AT_COUNTED = 14;
        private static final int AT_OP = 15;
        private static final int AT_BOUND = 16;
        private static final int BEHIND_TEST = 17;

        private final Tokens tokens;
        private final int[] testPlaces;
        private final int[] goalPlaces;
        private Policy policy;
        private int fault;
        private int place;
        private boolean ways;
        private int clause;
        private int goal;
        private int nots;
        private int closes;
        private boolean counted;
        private int which;
        private int whichPlace;
        private int op;

        Reader(Bytes source, Policy policy) {
            tokens = new Tokens(source);
            testPlaces = new int[Policy.TESTS];
            goalPlaces = new int[Policy.CLAUSES];
            this.policy = policy;
            fault = 0;
            place = NONE;
            clause = NONE;
        }

        int latestFault() {
            return fault;
        }

        int latestPlace() {
            return place;
        }

        int readInto(Policy target) {
            begin(target);
            int state = AT_TOP;
            // A TOKEN has one byte at least, and behind the last one comes the end.
            for (int n = 0; n <= TEXT_ROOM && state != DONE && fault == 0; n++) {
                tokens.advance();
                state = take(state);
                if (state == WRONG) {
                    fail(faultOfToken(), tokens.place());
                }
            }
            linkHeads(false);
            linkHeads(true);
            return fault;
        }

        private void begin(Policy target) {
            policy = target;
            policy.clear();
            tokens.restart();
            fault = 0;
            place = NONE;
        }

        private void fail(int fault, int place) {
            this.fault = fault;
            this.place = place;
        }

        private int faultOfToken() {
            if (tokens.isA(Tokens.BROKEN)) {
                return NO_TOKEN;
            }
            return tokens.isA(Tokens.END) ? TOO_SHORT : WRONG_TOKEN;
        }

        /** Takes the TOKEN; answers the next state. */
        private int take(int state) {
            switch (state) {
                case AT_TOP:
                    return takeTop();
                case AT_HEAD:
                    return takeHeadWord();
                case AT_COUNTER_NAME:
                    return takeHeadName(false, AT_COUNTER_TOP);
                case AT_COUNTER_TOP:
                    return takeCounterTop();
                case AT_NODE_NAME:
                    return takeHeadName(true, IN_HEAD);
                case IN_HEAD:
                    return takeClauseOrClose();
                case AT_CLAUSE:
                    return takeClauseWord();
                case AT_CALL:
                    return takeCall();
                case IN_CLAUSE:
                    return takeTestOrGoal();
                case BEHIND_GOAL:
                    return tokens.isA(Tokens.CLOSE) ? IN_HEAD : WRONG;
                case AT_TEST:
                    return takeTestWord();
                case BEHIND_NOT:
                    return tokens.isA(Tokens.OPEN) ? AT_TEST : WRONG;
                case AT_ARGUMENT:
                    return takeArgument();
                case AT_COUNTED:
                    return takeCounted();
                case AT_OP:
                    return takeOp();
                case AT_BOUND:
                    return takeBound();
                case BEHIND_TEST:
                    return takeTestClose();
                default:
                    return WRONG;
            }
        }

        private int takeTop() {
            if (tokens.isA(Tokens.END)) {
                if (policy.heads(true) == 0) {
                    fail(NO_NODE, tokens.place());
                }
                return DONE;
            }
            return tokens.isA(Tokens.OPEN) && policy.canAddHead(true) ? AT_HEAD : WRONG;
        }

        private int takeHeadWord() {
            if (tokens.isWord("node")) {
                return AT_NODE_NAME;
            }
            return tokens.isWord("counter") && policy.canAddHead(false) ? AT_COUNTER_NAME : WRONG;
        }

        private int takeHeadName(boolean ways, int next) {
            if (!tokens.isFreeName() || policy.find(ways, tokens.name()) != NONE) {
                return WRONG;
            }
            this.ways = ways;
            policy.addHead(ways, tokens.name());
            return next;
        }

        private int takeCounterTop() {
            if (!tokens.isNumber(1, MOST_TOP)) {
                return WRONG;
            }
            policy.setTopOfLast(tokens.number());
            return IN_HEAD;
        }

        private int takeClauseOrClose() {
            if (tokens.isA(Tokens.CLOSE)) {
                return AT_TOP;
            }
            return tokens.isA(Tokens.OPEN) && policy.canAddClause(ways) ? AT_CLAUSE : WRONG;
        }

        private int takeClauseWord() {
            if (ways) {
                goal = NONE;
                return tokens.isWord("go") ? AT_CALL : WRONG;
            }
            goal = tokens.isWord("up") ? UP : ZERO;
            return goal == UP || tokens.isWord("zero") ? AT_CALL : WRONG;
        }

        private int takeCall() {
            boolean any = tokens.isWord("any");
            if (!any && !tokens.isNumber(0, CALLS - 1)) {
                return WRONG;
            }
            clause = policy.addClause(ways, any ? ANY : tokens.number(), goal);
            return IN_CLAUSE;
        }

        private int takeTestOrGoal() {
            if (tokens.isA(Tokens.OPEN) && policy.canAddTest(clause)) {
                nots = 0;
                return AT_TEST;
            }
            if (!ways) {
                return tokens.isA(Tokens.CLOSE) ? IN_HEAD : WRONG;
            }
            if (!tokens.isFreeName()) {
                return WRONG;
            }
            keepPlace(goalPlaces, clause, tokens.place());
            return BEHIND_GOAL;
        }

        private int takeTestWord() {
            if (tokens.isWord("not")) {
                nots++;
                return BEHIND_NOT;
            }
            if (tokens.isWord("arg")) {
                return AT_ARGUMENT;
            }
            return tokens.isWord("count") ? AT_COUNTED : WRONG;
        }

        private int takeArgument() {
            if (!tokens.isNumber(0, ARGUMENTS - 1)) {
                return WRONG;
            }
            counted = false;
            which = tokens.number();
            whichPlace = tokens.place();
            return AT_OP;
        }

        private int takeCounted() {
            if (!tokens.isFreeName()) {
                return WRONG;
            }
            counted = true;
            which = 0;
            whichPlace = tokens.place();
            return AT_OP;
        }

        private int takeOp() {
            op = tokens.opNumber();
            return op == NONE ? WRONG : AT_BOUND;
        }

        private int takeBound() {
            if (!tokens.isA(Tokens.NUMBER)) {
                return WRONG;
            }
            int shape = Policy.shapeOf(counted, which, op, (nots & 1) == 1);
            int row = policy.addTest(clause, shape, tokens.number());
            keepPlace(testPlaces, row, whichPlace);
            closes = nots + 1;
            return BEHIND_TEST;
        }

        private int takeTestClose() {
            if (!tokens.isA(Tokens.CLOSE)) {
                return WRONG;
            }
            closes--;
            return closes > 0 ? BEHIND_TEST : IN_CLAUSE;
        }

        private static void keepPlace(int[] places, int row, int place) {
            if (row >= 0 && row < places.length) {
                places[row] = place;
            }
        }

        private static int placeIn(int[] places, int row) {
            return row >= 0 && row < places.length ? places[row] : NONE;
        }

        /** Finds the FAULTS 5 and 6, once all NAMES are known; rows stand in the TEXT's order. */
        private void linkHeads(boolean ways) {
            for (int k = 0; k < policy.heads(ways) && fault == 0; k++) {
                int clauses = ways ? policy.nodePart(k, NODE_WAYS) : policy.counterPart(k, COUNTER_RULES);
                for (int j = 0; j < clauses && fault == 0; j++) {
                    linkClause(ways, k, j);
                }
            }
        }

        private void linkClause(boolean ways, int k, int j) {
            int tests = policy.clausePart(ways, k, j, CLAUSE_TESTS);
            int arguments = Call.argumentsOf(policy.clausePart(ways, k, j, CLAUSE_CALL));
            for (int i = 0; i < tests && fault == 0; i++) {
                int row = policy.testRow(ways, k, j, i);
                if (policy.testPart(row, TEST_COUNTED) == 1) {
                    policy.setWhich(row, linked(false, placeIn(testPlaces, row)));
                } else if (policy.testPart(row, TEST_WHICH) >= arguments) {
                    fail(NO_ARGUMENT, placeIn(testPlaces, row));
                }
            }
            if (ways && fault == 0) {
                int row = policy.clauseRow(true, k, j);
                policy.setGoal(row, linked(true, placeIn(goalPlaces, row)));
            }
        }

        /** The COUNTER or NODE whose NAME stands there. */
        private int linked(boolean ways, int namePlace) {
            int k = policy.find(ways, tokens.nameAt(namePlace));
            if (k == NONE) {
                fail(NOT_THERE, namePlace);
            }
            return k;
        }
    }

    /** Writes a POLICY in the one way; what does not fit is left away and told. */
    private static final class Printer {
        private final Policy policy;
        private final Bytes out;
        private boolean fits;

        Printer(Policy policy, Bytes out) {
            this.policy = policy;
            this.out = out;
            fits = true;
        }

        boolean hasFitted() {
            return fits;
        }

        void writeCounter(int k) {
            writeText("(counter ");
            writeName(policy.nameOf(false, k));
            writeText(" ");
            writeNumber(policy.counterPart(k, COUNTER_TOP));
            int rules = policy.counterPart(k, COUNTER_RULES);
            for (int j = 0; j < rules; j++) {
                writeText(policy.clausePart(false, k, j, CLAUSE_GOAL) == UP ? " (up " : " (zero ");
                writeCallAndTests(false, k, j);
                writeText(")");
            }
            writeText(")\n");
        }

        void writeNode(int k) {
            writeText("(node ");
            writeName(policy.nameOf(true, k));
            int ways = policy.nodePart(k, NODE_WAYS);
            for (int j = 0; j < ways; j++) {
                writeText(" (go ");
                writeCallAndTests(true, k, j);
                writeText(" ");
                writeName(policy.nameOf(true, policy.clausePart(true, k, j, CLAUSE_GOAL)));
                writeText(")");
            }
            writeText(")\n");
        }

        private void writeCallAndTests(boolean ways, int k, int j) {
            int number = policy.clausePart(ways, k, j, CLAUSE_CALL);
            if (number == ANY) {
                writeText("any");
            } else {
                writeNumber(number);
            }
            int tests = policy.clausePart(ways, k, j, CLAUSE_TESTS);
            for (int i = 0; i < tests; i++) {
                int row = policy.testRow(ways, k, j, i);
                boolean turned = policy.testPart(row, TEST_TURNED) == 1;
                writeText(turned ? " (not " : " ");
                writeTest(row);
                writeText(turned ? ")" : "");
            }
        }

        private void writeTest(int row) {
            int which = policy.testPart(row, TEST_WHICH);
            if (policy.testPart(row, TEST_COUNTED) == 1) {
                writeText("(count ");
                writeName(policy.nameOf(false, which));
            } else {
                writeText("(arg ");
                writeNumber(which);
            }
            int op = policy.testPart(row, TEST_OP);
            writeText(op == LESS ? " less " : op == SAME ? " same " : " more ");
            writeNumber(policy.boundOf(row));
            writeText(")");
        }

        private void writeName(long name) {
            for (int shift = (MOST_LETTERS - 1) * LETTER_BITS; shift >= 0; shift -= LETTER_BITS) {
                int letter = (int) (name >> shift) & LETTER_MASK;
                if (letter != 0) {
                    fits &= out.add('a' + letter - 1);
                }
            }
        }

        private void writeNumber(int number) {
            // A long, since -2147483648 has no int that is its opposite.
            long rest = number;
            if (rest < 0) {
                fits &= out.add('-');
                rest = -rest;
            }
            long unit = 1L;
            while (unit <= 100000000L && unit * 10 <= rest) {
                unit *= 10;
            }
            for (; unit > 0; unit /= 10) {
                fits &= out.add('0' + (int) (rest / unit % 10));
            }
        }

        private void writeText(String words) {
            for (int i = 0; i < words.length(); i++) {
                fits &= out.add(words.charAt(i));
            }
        }
    }
}
