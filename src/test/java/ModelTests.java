import java.util.Random;

/** Many runs of calls, made from fixed seeds, on the class and on the Model side by side. */
public final class ModelTests {
    private static final int RUNS = 6000;
    private static final String[] NAMES = {"a", "b", "c", "d", "ab", "idle", "busy", "abcdefghijkl",
        "abcdefghijkm", "z", "zz", "nodes", "e", "f", "g", "h", "i", "j", "k", "l", "m", "n", "o", "p",
        "q", "r", "s", "t"};
    private static final String[] WORDS = {"counter", "node", "up", "zero", "go", "arg", "count",
        "not", "any", "less", "same", "more"};
    private static final String[] ODD = {"(", ")", " ", "\n", "-", "0", "7", "16", "x", "A", "\t",
        "abcdefghijklm", "2147483648", "-2147483649", "((", "))", "(node a)", "(counter a 1)", "1a"};

    private final Check check = new Check();
    private final int[] seen = new int[7];
    private Random random;
    private PolicyText x;
    private Model model;
    private String run;

    public static void main(String[] args) {
        ModelTests all = new ModelTests();
        for (int seed = 0; seed < RUNS && all.check.wrongOnes() < 20; seed++) {
            all.runOf(seed);
        }
        for (int fault = 0; fault < all.seen.length; fault++) {
            all.check.due("fault " + fault + " was often seen", all.seen[fault] > 50, true);
        }
        all.check.end();
    }

    private void runOf(int seed) {
        random = new Random(seed);
        x = new PolicyText();
        model = new Model();
        run = "run " + seed + ": ";
        for (int turn = 0; turn < 3; turn++) {
            same("cut(0)", x.cut(0), model.cut(0));
            give(makeText());
            pokeSome();
            read();
            ask();
            if (random.nextInt(3) == 0) {
                same("print", x.print(), model.print());
                same("turnOver", x.turnOver(), model.turnOver());
                read();
            }
        }
        same("print", x.print(), model.print());
        check.due(run + "PRINTED", Check.bytes(x, false), model.printed);
        check.due(run + "TEXT", Check.bytes(x, true), model.text);
    }

    private void same(String call, int got, int want) {
        check.due(run + call, got, want);
    }

    private void same(String call, boolean got, boolean want) {
        check.due(run + call, got, want);
    }

    private void give(String text) {
        int from = 0;
        while (from < text.length()) {
            int n = Math.min(8, text.length() - from);
            long v = random.nextLong();
            for (int i = 0; i < n; i++) {
                v = v << 8 | text.charAt(from + i);
            }
            same("give", x.give(v, n), model.give(v, n));
            from += n;
        }
    }

    private void pokeSome() {
        if (random.nextInt(4) == 0) {
            int k = random.nextInt(model.text.length() + 2) - 1;
            int b = random.nextInt(3) == 0 ? random.nextInt() : 32 + random.nextInt(96);
            same("poke", x.poke(k, b), model.poke(k, b));
        }
        if (random.nextInt(6) == 0) {
            int n = random.nextInt(model.text.length() + 3) - 1;
            same("cut", x.cut(n), model.cut(n));
        }
    }

    private void read() {
        int want = model.read();
        seen[want]++;
        same("read of " + model.text, x.read(), want);
        same("place of " + model.text, x.look(5), model.faultPlace);
    }

    private void ask() {
        for (int which = -1; which < 8; which++) {
            same("look(" + which + ")", x.look(which), model.look(which));
        }
        for (int n = 0; n < 60; n++) {
            boolean ways = random.nextBoolean();
            int k = near(ways ? model.rules.nodes.size() : model.rules.counters.size());
            int v = near(16);
            if (random.nextInt(4) == 0) {
                same("stand", x.stand(k, v), model.stand(k, v));
            }
            askOf(ways, k, near(ways ? 5 : 3), near(3), near(4));
        }
    }

    private void askOf(boolean ways, int k, int j, int i, int what) {
        same("counter", x.counter(k, what), model.counter(k, what));
        same("node", x.node(k, what), model.node(k, what));
        same("clause", x.clause(ways, k, j, what), model.clause(ways, k, j, what));
        same("test", x.test(ways, k, j, i, what), model.test(ways, k, j, i, what));
        same("than", x.than(ways, k, j, i), model.than(ways, k, j, i));
        int number = near(16);
        int a = small();
        int b = small();
        int c = small();
        same("call", x.call(number, a, b, c), model.call(number, a, b, c));
        same("holds", x.holds(ways, k, j), model.holds(ways, k, j));
        same("make", x.make(k), model.make(k));
        int at = random.nextInt(200) - 2;
        same("byteAt", x.byteAt(at, ways), model.byteAt(at, ways));
    }

    /** Mostly 0 .. n - 1, and a little beside it. */
    private int near(int n) {
        return random.nextInt(20) == 0 ? random.nextInt() : random.nextInt(n + 2) - 1;
    }

    private int small() {
        switch (random.nextInt(12)) {
            case 0:
                return Integer.MIN_VALUE;
            case 1:
                return Integer.MAX_VALUE;
            default:
                return random.nextInt(7) - 3;
        }
    }

    private String makeText() {
        StringBuilder text = new StringBuilder();
        boolean odd = random.nextInt(3) == 0;
        int counters = random.nextInt(odd ? 8 : 5);
        int nodes = random.nextInt(8) == 0 ? 20 + random.nextInt(6) : random.nextInt(5) + (odd ? 0 : 1);
        for (int k = 0; k < counters; k++) {
            put(text, "(", "counter", nameOf(k), number(1 + random.nextInt(15)));
            int rules = random.nextInt(odd ? 6 : 4);
            for (int j = 0; j < rules; j++) {
                clause(text, random.nextBoolean() ? "up" : "zero", counters);
                put(text, ")");
            }
            put(text, ")");
        }
        for (int k = 0; k < nodes; k++) {
            put(text, "(", "node", nameOf(k));
            int ways = random.nextInt(nodes > 10 ? 2 : odd ? 10 : 6);
            for (int j = 0; j < ways; j++) {
                clause(text, "go", counters);
                put(text, nameOf(random.nextInt(Math.max(1, nodes))), ")");
            }
            put(text, ")");
        }
        for (int n = odd ? random.nextInt(3) : 0; n > 0; n--) {
            spoil(text);
        }
        return text.length() > 1100 ? text.substring(0, 1100) : text.toString();
    }

    private String nameOf(int k) {
        return random.nextInt(150) == 0 ? NAMES[random.nextInt(NAMES.length)] : NAMES[k % NAMES.length];
    }

    private void clause(StringBuilder text, String word, int counters) {
        int number = random.nextInt(16);
        put(text, "(", word, random.nextInt(4) == 0 ? "any" : number(number));
        int guards = random.nextInt(20) == 0 ? 5 : random.nextInt(4);
        for (int i = 0; i < guards; i++) {
            int nots = random.nextInt(3) == 0 ? random.nextInt(4) : 0;
            for (int n = 0; n < nots; n++) {
                put(text, "(", "not");
            }
            boolean argument = counters == 0 || random.nextBoolean();
            int most = random.nextInt(30) == 0 ? 4 : Math.max(1, number % 4);
            put(text, "(", argument ? "arg" : "count",
                    argument ? number(random.nextInt(most)) : nameOf(random.nextInt(Math.max(1, counters))),
                    WORDS[9 + random.nextInt(3)], number(small()));
            for (int n = 0; n <= nots; n++) {
                put(text, ")");
            }
        }
    }

    private String number(int value) {
        String digits = String.valueOf(value).replace("-", "");
        String zeros = random.nextInt(8) == 0 ? "0".repeat(random.nextInt(14)) : "";
        return (value < 0 || value == 0 && random.nextInt(5) == 0 ? "-" : "") + zeros + digits;
    }

    /** Adds TOKENS with blanks, and mostly none where none is needed. */
    private void put(StringBuilder text, String... tokens) {
        for (String token : tokens) {
            boolean word = token.length() > 1 || "()".indexOf(token) < 0;
            boolean behind = text.length() > 0 && "() \n".indexOf(text.charAt(text.length() - 1)) < 0;
            if (word && behind || random.nextInt(9) == 0) {
                text.append(random.nextInt(8) == 0 ? "\n" : " ");
            }
            text.append(token);
        }
    }

    private void spoil(StringBuilder text) {
        int at = random.nextInt(text.length() + 1);
        String[] from = random.nextBoolean() ? ODD : random.nextBoolean() ? WORDS : NAMES;
        String part = from[random.nextInt(from.length)];
        int gone = random.nextInt(3) == 0 ? Math.min(text.length() - at, random.nextInt(6)) : 0;
        text.replace(at, at + gone, part);
    }
}
