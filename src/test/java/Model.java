import java.util.ArrayList;
import java.util.HashSet;
import java.util.List;
import java.util.Set;
import java.math.BigInteger;

/**
 * The document once more, written another way (recursive, with exceptions and the library), so
 * that two readings of it can be held against each other.
 */
final class Model {
    private static final Set<String> WORDS = Set.of("counter", "node", "up", "zero", "go", "arg",
            "count", "not", "any", "less", "same", "more");
    private static final List<String> OPS = List.of("less", "same", "more");

    static final class Guard {
        boolean counted;
        String name;
        int which;
        int place;
        int op;
        int than;
        boolean turned;
    }

    static final class Clause {
        int call;
        boolean up;
        final List<Guard> guards = new ArrayList<>();
        String goal;
        int goalPlace;
        int goalNode;
    }

    static final class Head {
        String name;
        int top;
        int stand;
        final List<Clause> clauses = new ArrayList<>();
    }

    static final class Rules {
        final List<Head> counters = new ArrayList<>();
        final List<Head> nodes = new ArrayList<>();

        List<Head> heads(boolean ways) {
            return ways ? nodes : counters;
        }
    }

    static final class Fault extends Exception {
        private static final long serialVersionUID = 1L;
        final int number;
        final int place;

        Fault(int number, int place) {
            this.number = number;
            this.place = place;
        }
    }

    String text = "";
    String printed = "";
    Rules rules = new Rules();
    int fault = 0;
    int faultPlace = -1;
    int number = 0;
    int[] arguments = {};

    private int at;
    private int tokenPlace;
    private String token;

    Model() {
        Head a = new Head();
        a.name = "a";
        rules.nodes.add(a);
    }

    boolean give(long v, int n) {
        if (n < 1 || n > 8 || text.length() + n > 4096) {
            return false;
        }
        StringBuilder more = new StringBuilder();
        for (int i = 0; i < n; i++) {
            more.insert(0, (char) (v & 255));
            v >>= 8;
        }
        text += more;
        return true;
    }

    boolean cut(int n) {
        if (n < 0 || n > text.length()) {
            return false;
        }
        text = text.substring(0, n);
        return true;
    }

    boolean poke(int k, int b) {
        if (k < 0 || k >= text.length()) {
            return false;
        }
        text = text.substring(0, k) + (char) (b & 255) + text.substring(k + 1);
        return true;
    }

    int read() {
        at = 0;
        try {
            Rules fresh = policy();
            link(fresh);
            rules = fresh;
            fault = 0;
            faultPlace = -1;
        } catch (Fault f) {
            fault = f.number;
            faultPlace = f.place;
        }
        return fault;
    }

    private static boolean isWordByte(char c) {
        return c >= 'a' && c <= 'z' || c >= '0' && c <= '9' || c == '-';
    }

    /** The next TOKEN, null at the end. */
    private void next() throws Fault {
        while (at < text.length() && (text.charAt(at) == 32 || text.charAt(at) == 10)) {
            at++;
        }
        tokenPlace = at;
        if (at == text.length()) {
            token = null;
            return;
        }
        int end = at;
        while (end < text.length() && isWordByte(text.charAt(end))) {
            end++;
        }
        if (end == at) {
            end++;
        }
        token = text.substring(at, end);
        at = end;
        if (!token.matches("[()]|[a-z]{1,12}") && !isNumber(token)) {
            throw new Fault(1, tokenPlace);
        }
    }

    private static boolean isNumber(String token) {
        if (!token.matches("-?[0-9]+")) {
            return false;
        }
        BigInteger value = new BigInteger(token);
        return value.bitLength() <= 31;
    }

    private Fault wrong() {
        return token == null ? new Fault(3, text.length()) : new Fault(2, tokenPlace);
    }

    private void want(String word) throws Fault {
        next();
        if (!word.equals(token)) {
            throw wrong();
        }
    }

    private String wantOneOf(Set<String> words) throws Fault {
        next();
        if (token == null || !words.contains(token)) {
            throw wrong();
        }
        return token;
    }

    private int wantNumber(int from, int to) throws Fault {
        next();
        return tokenNumber(from, to);
    }

    private int tokenNumber(int from, int to) throws Fault {
        if (token == null || !isNumber(token)) {
            throw wrong();
        }
        int value = new BigInteger(token).intValueExact();
        if (value < from || value > to) {
            throw wrong();
        }
        return value;
    }

    private String tokenName() throws Fault {
        if (token == null || !token.matches("[a-z]+") || WORDS.contains(token)) {
            throw wrong();
        }
        return token;
    }

    private Rules policy() throws Fault {
        Rules fresh = new Rules();
        next();
        while (token != null) {
            if (!token.equals("(") || fresh.nodes.size() == 24) {
                throw wrong();
            }
            boolean counters = fresh.nodes.isEmpty() && fresh.counters.size() < 6;
            boolean ways = wantOneOf(counters ? Set.of("counter", "node") : Set.of("node")).equals("node");
            head(fresh.heads(ways), ways);
            next();
        }
        if (fresh.nodes.isEmpty()) {
            throw new Fault(4, text.length());
        }
        return fresh;
    }

    private void head(List<Head> heads, boolean ways) throws Fault {
        Head head = new Head();
        next();
        head.name = tokenName();
        for (Head other : heads) {
            if (other.name.equals(head.name)) {
                throw wrong();
            }
        }
        heads.add(head);
        head.top = ways ? 0 : wantNumber(1, 15);
        next();
        while ("(".equals(token) && head.clauses.size() < (ways ? 8 : 4)) {
            head.clauses.add(clause(ways));
            next();
        }
        if (!")".equals(token)) {
            throw wrong();
        }
    }

    private Clause clause(boolean ways) throws Fault {
        Clause clause = new Clause();
        clause.up = wantOneOf(ways ? Set.of("go") : Set.of("up", "zero")).equals("up");
        next();
        clause.call = "any".equals(token) ? 16 : tokenNumber(0, 15);
        next();
        while ("(".equals(token) && clause.guards.size() < 4) {
            clause.guards.add(guard());
            next();
        }
        if (ways) {
            clause.goal = tokenName();
            clause.goalPlace = tokenPlace;
            next();
        }
        if (!")".equals(token)) {
            throw wrong();
        }
        return clause;
    }

    private Guard guard() throws Fault {
        String word = wantOneOf(Set.of("arg", "count", "not"));
        Guard guard;
        if (word.equals("not")) {
            want("(");
            guard = guard();
            guard.turned = !guard.turned;
        } else {
            guard = new Guard();
            guard.counted = word.equals("count");
            next();
            guard.place = tokenPlace;
            if (guard.counted) {
                guard.name = tokenName();
            } else {
                guard.which = tokenNumber(0, 2);
            }
            guard.op = OPS.indexOf(wantOneOf(Set.copyOf(OPS)));
            guard.than = wantNumber(Integer.MIN_VALUE, Integer.MAX_VALUE);
        }
        want(")");
        return guard;
    }

    private static void link(Rules fresh) throws Fault {
        for (int pass = 0; pass < 2; pass++) {
            for (Head head : fresh.heads(pass == 1)) {
                for (Clause clause : head.clauses) {
                    for (Guard guard : clause.guards) {
                        if (guard.counted) {
                            guard.which = indexOf(fresh.counters, guard.name, guard.place);
                        } else if (clause.call != 16 && guard.which >= clause.call % 4) {
                            throw new Fault(6, guard.place);
                        }
                    }
                    if (pass == 1) {
                        clause.goalNode = indexOf(fresh.nodes, clause.goal, clause.goalPlace);
                    }
                }
            }
        }
    }

    private static int indexOf(List<Head> heads, String name, int place) throws Fault {
        for (int k = 0; k < heads.size(); k++) {
            if (heads.get(k).name.equals(name)) {
                return k;
            }
        }
        throw new Fault(5, place);
    }

    int print() {
        StringBuilder out = new StringBuilder();
        for (int pass = 0; pass < 2; pass++) {
            for (Head head : rules.heads(pass == 1)) {
                List<String> parts = new ArrayList<>();
                parts.add(pass == 1 ? "node" : "counter");
                parts.add(head.name);
                if (pass == 0) {
                    parts.add(String.valueOf(head.top));
                }
                for (Clause clause : head.clauses) {
                    parts.add(printed(clause, pass == 1));
                }
                out.append("(").append(String.join(" ", parts)).append(")\n");
            }
        }
        if (out.length() > 8192) {
            return -1;
        }
        printed = out.toString();
        return printed.length();
    }

    private String printed(Clause clause, boolean ways) {
        List<String> parts = new ArrayList<>();
        parts.add(ways ? "go" : clause.up ? "up" : "zero");
        parts.add(clause.call == 16 ? "any" : String.valueOf(clause.call));
        for (Guard guard : clause.guards) {
            String of = guard.counted ? "count " + guard.name : "arg " + guard.which;
            String plain = "(" + of + " " + OPS.get(guard.op) + " " + guard.than + ")";
            parts.add(guard.turned ? "(not " + plain + ")" : plain);
        }
        if (ways) {
            parts.add(clause.goal);
        }
        return "(" + String.join(" ", parts) + ")";
    }

    boolean turnOver() {
        if (printed.length() > 4096) {
            return false;
        }
        text = printed;
        return true;
    }

    private Head head(boolean ways, int k) {
        List<Head> heads = rules.heads(ways);
        return k < 0 || k >= heads.size() ? null : heads.get(k);
    }

    private Clause clause(boolean ways, int k, int j) {
        Head head = head(ways, k);
        return head == null || j < 0 || j >= head.clauses.size() ? null : head.clauses.get(j);
    }

    private Guard guard(boolean ways, int k, int j, int i) {
        Clause clause = clause(ways, k, j);
        return clause == null || i < 0 || i >= clause.guards.size() ? null : clause.guards.get(i);
    }

    private static int pick(int what, int... parts) {
        return what < 0 || what >= parts.length ? -1 : parts[what];
    }

    boolean stand(int k, int v) {
        Head head = head(false, k);
        if (head == null || v < 0 || v > head.top) {
            return false;
        }
        head.stand = v;
        return true;
    }

    int counter(int k, int what) {
        Head head = head(false, k);
        return head == null ? -1
                : pick(what, head.top, head.clauses.size(), head.stand, head.name.length());
    }

    int node(int k, int what) {
        Head head = head(true, k);
        return head == null ? -1 : pick(what, head.clauses.size(), head.name.length());
    }

    int clause(boolean ways, int k, int j, int what) {
        Clause clause = clause(ways, k, j);
        return clause == null ? -1 : pick(what, clause.call, clause.guards.size(),
                ways ? clause.goalNode : clause.up ? 1 : 0);
    }

    int test(boolean ways, int k, int j, int i, int what) {
        Guard guard = guard(ways, k, j, i);
        return guard == null ? -1
                : pick(what, guard.counted ? 1 : 0, guard.which, guard.op, guard.turned ? 1 : 0);
    }

    int than(boolean ways, int k, int j, int i) {
        Guard guard = guard(ways, k, j, i);
        return guard == null ? 0 : guard.than;
    }

    boolean call(int number, int a, int b, int c) {
        if (number < 0 || number > 15) {
            return false;
        }
        this.number = number;
        int[] all = {a, b, c};
        arguments = java.util.Arrays.copyOf(all, number % 4);
        return true;
    }

    private boolean isTrue(Guard guard) {
        boolean plain = false;
        if (guard.counted || guard.which < arguments.length) {
            int value = guard.counted ? rules.counters.get(guard.which).stand : arguments[guard.which];
            plain = guard.op == Integer.compare(value, guard.than) + 1;
        }
        return guard.turned ? !plain : plain;
    }

    boolean holds(boolean ways, int k, int j) {
        Clause clause = clause(ways, k, j);
        return clause != null && (clause.call == 16 || clause.call == number)
                && clause.guards.stream().allMatch(this::isTrue);
    }

    int make(int k) {
        Head head = head(true, k);
        if (head == null) {
            return -1;
        }
        Set<Integer> reached = new HashSet<>();
        for (int j = 0; j < head.clauses.size(); j++) {
            if (holds(true, k, j)) {
                reached.add(head.clauses.get(j).goalNode);
            }
        }
        List<Integer> later = new ArrayList<>();
        for (int c = 0; c < rules.counters.size(); c++) {
            Head counter = rules.counters.get(c);
            int stand = counter.stand;
            for (int j = counter.clauses.size() - 1; j >= 0; j--) {
                if (holds(false, c, j)) {
                    stand = counter.clauses.get(j).up ? Math.min(counter.stand + 1, counter.top) : 0;
                }
            }
            later.add(stand);
        }
        for (int c = 0; c < later.size(); c++) {
            rules.counters.get(c).stand = later.get(c);
        }
        return reached.size();
    }

    int byteAt(int k, boolean ofText) {
        String of = ofText ? text : printed;
        return k < 0 || k >= of.length() ? -1 : of.charAt(k);
    }

    int look(int which) {
        int tests = 0;
        for (int pass = 0; pass < 2; pass++) {
            for (Head head : rules.heads(pass == 1)) {
                for (Clause clause : head.clauses) {
                    tests += clause.guards.size();
                }
            }
        }
        return pick(which, rules.counters.size(), rules.nodes.size(), text.length(),
                printed.length(), fault, faultPlace, tests);
    }
}
