/** Each sentence of the promises that names a limit: at it, and on both sides of it. */
public final class BoundaryTests {
    private static final Check check = new Check();

    private static final int[] BELOW = {Integer.MIN_VALUE, Integer.MIN_VALUE + 1, -65536, -256, -8, -2, -1};
    private static final int[] ABOVE = {8193, 65536, 1 << 20, 1 << 30, Integer.MAX_VALUE - 1, Integer.MAX_VALUE};

    /** Two COUNTERS, three NODES; the WAYS of the last one tell the CALL. */
    private static final String POLICY =
            "(counter low 1(up 1)(zero 2(arg 0 less 5)(count high more 14)))"
            + "(counter high 15(zero any(not(count low same 0))(arg 2 more 3))(up any)(up 3)(zero 0))"
            + "(node start(go 1 end)(go any mid)(go 2(arg 1 same 2)start))"
            + "(node mid)"
            + "(node end(go 15(arg 0 same 1)(arg 1 same 2)(arg 2 same 3)(count low less 1)end))";

    public static void main(String[] args) {
        newObject();
        giveCountsItsBytes();
        giveTakesTheLowest();
        giveFillsTheRoom();
        giveFindsNoRoom();
        cutKeepsTheFirst();
        cutFindsFewer();
        pokeKnowsItsPlaces();
        pokeTakesTheLowestBits();
        readMakesThePolicy();
        readSetsCountersToZero();
        readKeepsTheText();
        readOfAFullText();
        allLimitsAtOnce();
        printSaysHowMany();
        printFillsTheRoom();
        turnOverOfNothing();
        turnOverFillsTheText();
        standKnowsItsCounters();
        standKnowsItsLimits();
        counterParts();
        nodeParts();
        clauseParts();
        testParts();
        thanParts();
        callIsZeroAtFirst();
        callKnowsItsNumbers();
        callLooksAtItsArgumentsOnly();
        holdsNeedsTheNumber();
        holdsNeedsAllTests();
        holdsOfNone();
        makeCountsNodes();
        makeOfNoNode();
        makeStopsAtM();
        makeTakesTheFirstRule();
        makeAsksAheadOfMoving();
        makeMovesAllCounters();
        byteAtKnowsItsPlaces();
        lookCounts();
        lookSaysTheLatestFault();
        lookOfNone();
        the512thCall();
        check.end();
    }

    private static void newObject() {
        check.sentence("1: No TEXT; the POLICY is (node a)");
        PolicyText x = new PolicyText();
        check.due("bytes of the TEXT", x.look(2), 0);
        check.due("first byte", x.byteAt(0, true), -1);
        check.due("bytes PRINTED", x.look(3), 0);
        check.due("first byte PRINTED", x.byteAt(0, false), -1);
        check.due("COUNTERS", x.look(0), 0);
        check.due("NODES", x.look(1), 1);
        check.due("WAYS", x.node(0, 0), 0);
        check.due("letters", x.node(0, 1), 1);
        check.due("NODE 1", x.node(1, 0), -1);
        check.due("COUNTER 0", x.counter(0, 0), -1);
        check.due("WAY 0", x.clause(true, 0, 0, 0), -1);
        check.due("TESTS", x.look(6), 0);
        check.due("fault", x.look(4), 0);
        check.due("its place", x.look(5), -1);
        check.due("make", x.make(0), 0);
        check.due("print", x.print(), 9);
        check.due("PRINTED", Check.bytes(x, false), "(node a)\n");
    }

    private static void giveCountsItsBytes() {
        check.sentence("2: n bytes of v, 1 .. 8; false if n is not as said");
        for (int n = -3; n < 20; n++) {
            PolicyText x = new PolicyText();
            boolean right = n >= 1 && n <= 8;
            check.due("give of " + n, x.give(0x6162636465666768L, n), right);
            check.due("bytes behind give of " + n, x.look(2), right ? n : 0);
        }
        PolicyText none = new PolicyText();
        for (int n : BELOW) {
            check.due("give of " + n, none.give(-1L, n), false);
        }
        for (int n : ABOVE) {
            check.due("give of " + n, none.give(-1L, n), false);
        }
        check.due("give of 256 + 1", none.give(-1L, 257), false);
        check.due("bytes", none.look(2), 0);
    }

    private static void giveTakesTheLowest() {
        check.sentence("2: the highest first (of its lowest n)");
        long v = 0x8182838485868788L;
        for (int n = 1; n <= 8; n++) {
            PolicyText x = new PolicyText();
            x.give('x', 1);
            x.give(v, n);
            for (int i = 0; i < n; i++) {
                check.due("byte " + i + " of " + n, x.byteAt(1 + i, true), 0x88 - (n - 1) + i);
            }
            check.due("byte behind " + n, x.byteAt(1 + n, true), -1);
        }
        for (long edge : new long[] {0L, -1L, Long.MIN_VALUE, Long.MAX_VALUE, 255L, 256L}) {
            PolicyText x = new PolicyText();
            x.give(edge, 8);
            long back = 0;
            for (int i = 0; i < 8; i++) {
                back = back << 8 | x.byteAt(i, true);
            }
            check.due("the bytes of " + edge, back, edge);
        }
    }

    private static PolicyText textOf(int bytes) {
        PolicyText x = check.with(Texts.printedAs(4090));
        check.due("print", x.print(), 4090);
        check.due("turnOver", x.turnOver(), true);
        if (bytes > 4090) {
            check.due("give", x.give(0x2020202020202020L, bytes - 4090), true);
        } else {
            check.due("cut", x.cut(bytes), true);
        }
        return x;
    }

    private static void giveFillsTheRoom() {
        check.sentence("2: come to the TEXT, of which there are up to 4096: true");
        for (int n = 1; n <= 8; n++) {
            PolicyText x = textOf(4096 - n);
            check.due("give of " + n + " into as many", x.give(0x3132333435363738L, n), true);
            check.due("bytes", x.look(2), 4096);
            check.due("first of them", x.byteAt(4096 - n, true), '8' - n + 1);
            check.due("last byte", x.byteAt(4095, true), '8');
            check.due("byte behind", x.byteAt(4096, true), -1);
        }
    }

    private static void giveFindsNoRoom() {
        check.sentence("2: false if .. there is no room");
        for (int room = 0; room < 8; room++) {
            for (int n = room + 1; n <= 8; n++) {
                PolicyText x = textOf(4096 - room);
                int last = x.byteAt(4095 - room, true);
                check.due("give of " + n + " into " + room, x.give(0x3132333435363738L, n), false);
                check.due("bytes stay", x.look(2), 4096 - room);
                check.due("the last one stays", x.byteAt(4095 - room, true), last);
                check.due("none is behind", x.byteAt(4096 - room, true), -1);
                check.due("what fits still comes", room == 0 || x.give(0x41L, room), true);
            }
        }
        PolicyText x = textOf(4096);
        check.due("cut", x.cut(4095), true);
        check.due("room again", x.give('z', 1), true);
        check.due("and none", x.give('z', 1), false);
    }

    private static void cutKeepsTheFirst() {
        check.sentence("3: There are the first n bytes of the TEXT alone: true");
        for (int n = 0; n <= 10; n++) {
            PolicyText x = new PolicyText();
            Check.give(x, "abcdefghij");
            check.due("cut(" + n + ")", x.cut(n), true);
            check.due("TEXT behind cut(" + n + ")", Check.bytes(x, true), "abcdefghij".substring(0, n));
            check.due("byte behind", x.byteAt(n, true), -1);
            check.due("poke behind", x.poke(n, 'x'), false);
            Check.give(x, "XY");
            check.due("TEXT goes on there", Check.bytes(x, true), "abcdefghij".substring(0, n) + "XY");
        }
        check.due("cut(4096) of 4096", textOf(4096).cut(4096), true);
    }

    private static void cutFindsFewer() {
        check.sentence("3: false if there are fewer, or n is below 0");
        PolicyText x = new PolicyText();
        check.due("cut(0) of none", x.cut(0), true);
        check.due("cut(1) of none", x.cut(1), false);
        Check.give(x, "abcdefghij");
        for (int n : BELOW) {
            check.due("cut(" + n + ")", x.cut(n), false);
        }
        for (int n : new int[] {11, 12, 16, 4096, 4097}) {
            check.due("cut(" + n + ")", x.cut(n), false);
        }
        for (int n : ABOVE) {
            check.due("cut(" + n + ")", x.cut(n), false);
        }
        check.due("TEXT stays", Check.bytes(x, true), "abcdefghij");
        x.cut(4);
        check.due("no byte comes back", x.cut(5), false);
        check.due("cut(4097) of 4096", textOf(4096).cut(4097), false);
    }

    private static void pokeKnowsItsPlaces() {
        check.sentence("4: Byte k of the TEXT is b now: true; false if there is none such");
        for (int length = 0; length < 18; length++) {
            for (int k = -1; k <= length + 1; k++) {
                PolicyText x = new PolicyText();
                String text = "abcdefghijklmnopqr".substring(0, length);
                Check.give(x, text);
                boolean right = k >= 0 && k < length;
                check.due("poke(" + k + ") of " + length, x.poke(k, '#'), right);
                String want = right ? text.substring(0, k) + "#" + text.substring(k + 1) : text;
                check.due("TEXT", Check.bytes(x, true), want);
            }
        }
        PolicyText x = textOf(4096);
        check.due("poke(4095)", x.poke(4095, 'q'), true);
        check.due("the last byte", x.byteAt(4095, true), 'q');
        check.due("the one ahead", x.byteAt(4094, true), ' ');
        check.due("poke(4096)", x.poke(4096, 'q'), false);
        for (int k : BELOW) {
            check.due("poke(" + k + ")", x.poke(k, 'q'), false);
        }
        for (int k : ABOVE) {
            check.due("poke(" + k + ")", x.poke(k, 'q'), false);
        }
    }

    private static void pokeTakesTheLowestBits() {
        check.sentence("4: (its lowest eight bits)");
        int[] all = {0, 1, 127, 128, 255, 256, 257, 511, 65535, 65536, -1, -128, -129, -256, -257,
            Integer.MIN_VALUE, Integer.MAX_VALUE};
        for (int b : all) {
            PolicyText x = new PolicyText();
            Check.give(x, "abc");
            check.due("poke of " + b, x.poke(1, b), true);
            check.due("byte of " + b, x.byteAt(1, true), b & 255);
            check.due("ahead", x.byteAt(0, true), 'a');
            check.due("behind", x.byteAt(2, true), 'c');
        }
    }

    private static void readMakesThePolicy() {
        check.sentence("5: 0, and that is the POLICY, its COUNTERS stand at 0; else the fault");
        PolicyText x = check.with(POLICY);
        x.stand(0, 1);
        x.stand(1, 15);
        check.due("read again", x.read(), 0);
        check.due("COUNTER 0", x.counter(0, 2), 0);
        check.due("COUNTER 1", x.counter(1, 2), 0);
        check.due("a smaller one", Check.readOf(x, "(counter x 9)(node z)"), 0);
        check.due("COUNTERS", x.look(0), 1);
        check.due("no COUNTER 1", x.counter(1, 0), -1);
        check.due("no RULES", x.counter(0, 1), 0);
        check.due("no RULE 0", x.clause(false, 0, 0, 0), -1);
        check.due("NODES", x.look(1), 1);
        check.due("no WAY 0", x.clause(true, 0, 0, 0), -1);
        check.due("TESTS", x.look(6), 0);
        check.due("the first again", Check.readOf(x, POLICY), 0);
        check.due("TESTS", x.look(6), 9);
        check.due("RULES", x.counter(1, 1), 4);
        int[] faults = {1, 2, 3, 4, 5, 6};
        String[] texts = {"(node a)?", "(node a))", "(node a", "(counter a 1)", "(node a(go 1 b))",
            "(node a(go 0(arg 0 less 1)a))"};
        for (int n = 0; n < faults.length; n++) {
            check.due("read of " + texts[n], Check.readOf(x, texts[n]), faults[n]);
            check.due("COUNTERS", x.look(0), 2);
            check.due("NODES", x.look(1), 3);
        }
    }

    private static void readSetsCountersToZero() {
        check.sentence("5: its COUNTERS stand at 0");
        PolicyText x = check.with(Texts.counters(6) + "(node a)");
        for (int n = 0; n < 5; n++) {
            for (int k = 0; k < 6; k++) {
                check.due("stand", x.stand(k, 1), true);
            }
            check.due("read", x.read(), 0);
            for (int k = 0; k < 6; k++) {
                check.due("COUNTER " + k + " behind read", x.counter(k, 2), 0);
            }
        }
    }

    private static void readKeepsTheText() {
        check.sentence("5: (The TEXT stays.)");
        for (String text : new String[] {"(node b)", " ( node b ) ", "(node b", "\0?", "(node a(go 1 b))"}) {
            PolicyText x = new PolicyText();
            Check.give(x, text);
            int first = x.read();
            check.due("TEXT", Check.bytes(x, true), text);
            check.due("read again", x.read(), first);
            check.due("TEXT", Check.bytes(x, true), text);
        }
    }

    private static void readOfAFullText() {
        check.sentence("2, 5: a TEXT of 4096 bytes is READ");
        PolicyText x = textOf(4096);
        check.due("read", x.read(), 0);
        check.due("NODES", x.look(1), 22);
        x.poke(4095, '(');
        check.due("its last byte is (", x.read(), 3);
        check.due("place", x.look(5), 4096);
        x.poke(4095, ')');
        check.due("its last byte is )", x.read(), 2);
        check.due("place", x.look(5), 4095);
        x.poke(4095, 0);
        check.due("its last byte is none", x.read(), 1);
        check.due("place", x.look(5), 4095);
        int parens = 0;
        PolicyText y = textOf(0);
        while (parens < 4000 && y.give(0x2020202020202020L, 8)) {
            parens += 8;
        }
        check.due("blanks alone", y.read(), 4);
        check.due("place", y.look(5), parens);
    }

    private static void allLimitsAtOnce() {
        check.sentence("up to 6 COUNTERS, 4 RULES in each, 24 NODES, 8 WAYS in each, up to 4 G, all at once");
        String packed = Texts.most(false);
        String printed = Texts.most(true);
        Fresh objects = new Fresh(() -> Answers.behind(() -> check.with(packed), x -> x.print()));
        check.due("COUNTERS", objects.get().look(0), 6);
        check.due("NODES", objects.get().look(1), 24);
        check.due("bytes PRINTED", objects.get().look(3), printed.length());
        check.due("PRINTED", objects.bytes(false), printed);
        int tests = 0;
        for (int head = 0; head < 30; head++) {
            boolean ways = head >= 6;
            for (int j = 0; j < (ways ? 8 : 4); j++) {
                int k = ways ? head - 6 : head;
                mostClauseIs(objects, ways, k, j);
                tests += Texts.mostTests(ways, k, j);
            }
        }
        check.due("TESTS in all", objects.get().look(6), tests);
    }

    private static void mostClauseIs(Fresh objects, boolean ways, int k, int j) {
        String name = (ways ? "WAY " : "RULE ") + j + " of " + k;
        check.due("call of " + name, objects.get().clause(ways, k, j, 0), Texts.mostCall(ways, k, j));
        check.due("goal of " + name, objects.get().clause(ways, k, j, 2), Texts.mostGoal(ways, k, j));
        int tests = Texts.mostTests(ways, k, j);
        check.due("TESTS of " + name, objects.get().clause(ways, k, j, 1), tests);
        for (int i = 0; i < tests; i++) {
            boolean counted = i % 2 == 0;
            check.due("kind in " + name, objects.get().test(ways, k, j, i, 0), counted ? 1 : 0);
            check.due("which in " + name, objects.get().test(ways, k, j, i, 1), counted ? (k + j) % 6 : 1);
            check.due("than in " + name, objects.get().than(ways, k, j, i), Texts.mostThan(ways, k, j, i));
        }
        check.due("no further TEST of " + name, objects.get().test(ways, k, j, tests, 0), -1);
    }

    private static void printSaysHowMany() {
        check.sentence("6: The POLICY is PRINTED: how many bytes");
        PolicyText x = new PolicyText();
        check.due("print", x.print(), 9);
        check.due("look(3)", x.look(3), 9);
        Check.readOf(x, "(node ab)");
        check.due("look(3) of the earlier one", x.look(3), 9);
        check.due("print", x.print(), 10);
        check.due("PRINTED", Check.bytes(x, false), "(node ab)\n");
        check.due("shorter again", Check.readOf(x, "(node b)"), 0);
        check.due("print", x.print(), 9);
        check.due("byte behind", x.byteAt(9, false), -1);
        for (int bytes : new int[] {4086, 4095, 4096, 4097}) {
            PolicyText y = check.with(Texts.printedAs(bytes));
            check.due("print of " + bytes, y.print(), bytes);
            check.due("the last byte", y.byteAt(bytes - 1, false), '\n');
            check.due("none behind", y.byteAt(bytes, false), -1);
        }
    }

    /** No TEXT of 4096 bytes is PRINTED as 8193, so the POLICY is built behind the face. */
    private static void printFillsTheRoom() {
        check.sentence("6: NONE if these would be more than 8192 (what was PRINTED before stays)");
        for (int bytes : new int[] {8191, 8192, 8193, 8194, 8200}) {
            PolicyText x = new PolicyText();
            check.due("print of the first", x.print(), 9);
            WidePolicy.widen(x, bytes - 9);
            boolean fits = bytes <= 8192;
            check.due("print of " + bytes, x.print(), fits ? bytes : -1);
            check.due("look(3)", x.look(3), fits ? bytes : 9);
            check.due("byte 0", x.byteAt(0, false), '(');
            check.due("byte 8", x.byteAt(8, false), '\n');
            check.due("byte 9", x.byteAt(9, false), fits ? '(' : -1);
            check.due("the last one", x.byteAt(bytes - 1, false), fits ? '\n' : -1);
            check.due("turnOver", x.turnOver(), !fits);
            check.due("bytes of the TEXT", x.look(2), fits ? 0 : 9);
            if (!fits) {
                check.due("read of what stayed", x.read(), 0);
                check.due("print of it", x.print(), 9);
            }
        }
    }

    private static void turnOverOfNothing() {
        check.sentence("7: What was PRINTED is the TEXT: true");
        PolicyText x = new PolicyText();
        Check.give(x, "abc");
        check.due("turnOver of nothing", x.turnOver(), true);
        check.due("no TEXT", x.look(2), 0);
        check.due("first byte", x.byteAt(0, true), -1);
        x.print();
        Check.give(x, "abcdefghijklmnop");
        check.due("turnOver", x.turnOver(), true);
        check.due("TEXT", Check.bytes(x, true), "(node a)\n");
        check.due("PRINTED stays", Check.bytes(x, false), "(node a)\n");
        check.due("read", x.read(), 0);
        check.due("give behind it", x.give('?', 1), true);
        check.due("TEXT", Check.bytes(x, true), "(node a)\n?");
        check.due("turnOver again", x.turnOver(), true);
        check.due("TEXT", Check.bytes(x, true), "(node a)\n");
    }

    private static void turnOverFillsTheText() {
        check.sentence("7: false if it has more than 4096 bytes");
        for (int bytes = 4088; bytes <= 4097; bytes++) {
            String text = Texts.printedAs(bytes);
            PolicyText x = check.with(text);
            check.due("print", x.print(), bytes);
            boolean fits = bytes <= 4096;
            check.due("turnOver of " + bytes, x.turnOver(), fits);
            int length = fits ? bytes : text.length();
            check.due("bytes of the TEXT", x.look(2), length);
            check.due("the last one", x.byteAt(length - 1, true), fits ? '\n' : ')');
            check.due("the one ahead", x.byteAt(length - 2, true), fits ? ')' : 'z');
            check.due("none behind", x.byteAt(length, true), -1);
            check.due("it can be READ", x.read(), 0);
        }
    }

    private static void standKnowsItsCounters() {
        check.sentence("8: false if there is none such");
        check.due("stand without COUNTERS", new PolicyText().stand(0, 0), false);
        for (int many = 1; many <= 6; many++) {
            PolicyText x = check.with(Texts.counters(many) + "(node a)");
            for (int k = -1; k < 8; k++) {
                check.due("stand of COUNTER " + k + " of " + many, x.stand(k, 1), k >= 0 && k < many);
                check.due("it stands", x.counter(k, 2), k >= 0 && k < many ? 1 : -1);
            }
            for (int k : BELOW) {
                check.due("stand of COUNTER " + k, x.stand(k, 0), false);
            }
            for (int k : ABOVE) {
                check.due("stand of COUNTER " + k, x.stand(k, 0), false);
            }
        }
    }

    private static void standKnowsItsLimits() {
        check.sentence("8: false if .. v is not 0 .. m");
        for (int m = 1; m <= 15; m++) {
            PolicyText x = check.with("(counter o 15)(counter c " + m + ")(node a)");
            for (int v = -2; v < 18; v++) {
                x.stand(1, m);
                boolean right = v >= 0 && v <= m;
                check.due("stand at " + v + " of " + m, x.stand(1, v), right);
                check.due("it stands at", x.counter(1, 2), right ? v : m);
            }
            for (int v : BELOW) {
                check.due("stand at " + v, x.stand(1, v), false);
            }
            for (int v : ABOVE) {
                check.due("stand at " + v, x.stand(1, v), false);
            }
            check.due("stand at 256", x.stand(1, 256), false);
            check.due("the other one", x.counter(0, 2), 0);
        }
    }

    private static void counterParts() {
        check.sentence("9: what 0: m, 1: how many RULES, 2: at what it stands, 3: letters of its NAME");
        PolicyText x = check.with(POLICY);
        x.stand(1, 14);
        int[][] want = {{1, 2, 0, 3}, {15, 4, 14, 4}};
        for (int k = 0; k < 2; k++) {
            for (int what = 0; what < 4; what++) {
                check.due("counter(" + k + ", " + what + ")", x.counter(k, what), want[k][what]);
            }
        }
        check.sentence("9: NONE if there is none such, or no such what");
        for (int what = -1; what < 6; what++) {
            check.due("counter(-1, " + what + ")", x.counter(-1, what), -1);
            check.due("counter(2, " + what + ")", x.counter(2, what), -1);
        }
        for (int far : BELOW) {
            check.due("counter(" + far + ", 0)", x.counter(far, 0), -1);
            check.due("counter(0, " + far + ")", x.counter(0, far), -1);
        }
        check.due("what 4", x.counter(0, 4), -1);
        check.due("what most", x.counter(0, Integer.MAX_VALUE), -1);
        check.due("COUNTER most", x.counter(Integer.MAX_VALUE, 0), -1);
    }

    private static void nodeParts() {
        check.sentence("10: what 0: how many WAYS, 1: letters of its NAME");
        PolicyText x = check.with(POLICY);
        int[][] want = {{3, 5}, {0, 3}, {1, 3}};
        for (int k = 0; k < 3; k++) {
            check.due("node(" + k + ", 0)", x.node(k, 0), want[k][0]);
            check.due("node(" + k + ", 1)", x.node(k, 1), want[k][1]);
        }
        check.sentence("10: NONE likewise");
        for (int k = 0; k < 3; k++) {
            check.due("node(" + k + ", 2)", x.node(k, 2), -1);
            check.due("node(" + k + ", -1)", x.node(k, -1), -1);
        }
        for (int what = -1; what < 4; what++) {
            check.due("node(-1, " + what + ")", x.node(-1, what), -1);
            check.due("node(3, " + what + ")", x.node(3, what), -1);
        }
        for (int far : BELOW) {
            check.due("node(" + far + ", 0)", x.node(far, 0), -1);
            check.due("node(0, " + far + ")", x.node(0, far), -1);
        }
        check.due("NODE most", x.node(Integer.MAX_VALUE, 0), -1);
        check.due("what most", x.node(0, Integer.MAX_VALUE), -1);
        PolicyText most = check.with(Texts.nodes(24));
        check.due("NODE 23", most.node(23, 1), 1);
        check.due("NODE 24", most.node(24, 1), -1);
    }

    private static void clauseIs(PolicyText x, boolean ways, int k, int j, int... want) {
        for (int what = -1; what < 5; what++) {
            int part = want.length == 3 && what >= 0 && what < 3 ? want[what] : -1;
            check.due("clause(" + ways + ", " + k + ", " + j + ", " + what + ")",
                    x.clause(ways, k, j, what), part);
        }
    }

    private static void clauseParts() {
        check.sentence("11: what 0: its call, 16 for any; 1: how many TESTS; 2: 1 for up, 0 for zero, or the NODE");
        PolicyText x = check.with(POLICY);
        clauseIs(x, false, 0, 0, 1, 0, 1);
        clauseIs(x, false, 0, 1, 2, 2, 0);
        clauseIs(x, false, 1, 0, 16, 2, 0);
        clauseIs(x, false, 1, 1, 16, 0, 1);
        clauseIs(x, false, 1, 2, 3, 0, 1);
        clauseIs(x, false, 1, 3, 0, 0, 0);
        clauseIs(x, true, 0, 0, 1, 0, 2);
        clauseIs(x, true, 0, 1, 16, 0, 1);
        clauseIs(x, true, 0, 2, 2, 1, 0);
        clauseIs(x, true, 2, 0, 15, 4, 2);
        check.sentence("11: NONE likewise");
        int[][] none = {{0, -1}, {0, 3}, {1, -1}, {1, 0}, {2, 1}, {3, 0}, {-1, 0}};
        for (int[] one : none) {
            clauseIs(x, true, one[0], one[1]);
        }
        int[][] noRule = {{0, -1}, {0, 2}, {1, -1}, {1, 4}, {2, 0}, {-1, 0}, {-1, 4}};
        for (int[] one : noRule) {
            clauseIs(x, false, one[0], one[1]);
        }
        for (int far : BELOW) {
            for (int n = 0; n < 2; n++) {
                check.due("k " + far, x.clause(n == 1, far, 0, 0), -1);
                check.due("j " + far, x.clause(n == 1, 0, far, 0), -1);
                check.due("what " + far, x.clause(n == 1, 0, 0, far), -1);
            }
        }
        check.due("most", x.clause(true, Integer.MAX_VALUE, Integer.MAX_VALUE, 0), -1);
    }

    private static void testIs(PolicyText x, boolean ways, int k, int j, int i, int... want) {
        for (int what = -1; what < 6; what++) {
            int part = want.length == 4 && what >= 0 && what < 4 ? want[what] : -1;
            check.due("test(" + ways + ", " + k + ", " + j + ", " + i + ", " + what + ")",
                    x.test(ways, k, j, i, what), part);
        }
    }

    private static void testParts() {
        check.sentence("12: what 0: 1 if it is of a COUNTER, else 0; 1: ..; 2: ..; 3: 1 if it is TURNED, else 0");
        PolicyText x = check.with(POLICY);
        testIs(x, false, 0, 1, 0, 0, 0, 0, 0);
        testIs(x, false, 0, 1, 1, 1, 1, 2, 0);
        testIs(x, false, 1, 0, 0, 1, 0, 1, 1);
        testIs(x, false, 1, 0, 1, 0, 2, 2, 0);
        testIs(x, true, 0, 2, 0, 0, 1, 1, 0);
        for (int i = 0; i < 3; i++) {
            testIs(x, true, 2, 0, i, 0, i, 1, 0);
        }
        testIs(x, true, 2, 0, 3, 1, 0, 0, 0);
        check.sentence("12: NONE likewise");
        testIs(x, true, 2, 0, 4);
        testIs(x, true, 2, 0, -1);
        testIs(x, true, 2, 1, 0);
        testIs(x, true, 2, -1, 0);
        testIs(x, true, 3, 0, 0);
        testIs(x, true, -1, 0, 0);
        testIs(x, true, 0, 0, 0);
        testIs(x, true, 1, 0, 0);
        testIs(x, false, 0, 1, 2);
        testIs(x, false, 0, 0, 0);
        testIs(x, false, 0, 2, 0);
        testIs(x, false, 2, 0, 0);
        testIs(x, false, -1, 1, 0);
        for (int far : BELOW) {
            check.due("k " + far, x.test(true, far, 0, 0, 0), -1);
            check.due("j " + far, x.test(true, 2, far, 0, 0), -1);
            check.due("i " + far, x.test(true, 2, 0, far, 0), -1);
            check.due("what " + far, x.test(true, 2, 0, 0, far), -1);
        }
        for (int far : ABOVE) {
            check.due("k " + far, x.test(true, far, 0, 0, 0), -1);
            check.due("j " + far, x.test(true, 2, far, 0, 0), -1);
            check.due("i " + far, x.test(true, 2, 0, far, 0), -1);
            check.due("what " + far, x.test(true, 2, 0, 0, far), -1);
        }
    }

    private static void thanParts() {
        check.sentence("13: k of that TEST");
        PolicyText x = check.with(POLICY);
        int[] ways = {1, 2, 3, 1};
        for (int i = 0; i < 4; i++) {
            check.due("than of TEST " + i, x.than(true, 2, 0, i), ways[i]);
        }
        check.due("than of a RULE's", x.than(false, 0, 1, 0), 5);
        check.due("than of a RULE's", x.than(false, 0, 1, 1), 14);
        check.due("than of a RULE's", x.than(false, 1, 0, 0), 0);
        check.due("than of a RULE's", x.than(false, 1, 0, 1), 3);
        check.sentence("13: 0 if there is none such");
        int[][] none = {{2, 0, 4}, {2, 0, -1}, {2, 1, 0}, {2, -1, 0}, {3, 0, 0}, {-1, 0, 0}, {0, 0, 0}, {0, 2, 1}};
        for (int[] one : none) {
            check.due("than of no WAY's", x.than(true, one[0], one[1], one[2]), 0);
        }
        int[][] noRule = {{0, 1, 2}, {0, 1, -1}, {0, 0, 0}, {0, 2, 0}, {1, 4, 0}, {2, 0, 0}, {-1, 1, 0}};
        for (int[] one : noRule) {
            check.due("than of no RULE's", x.than(false, one[0], one[1], one[2]), 0);
        }
        for (int far : BELOW) {
            check.due("k " + far, x.than(true, far, 0, 0), 0);
            check.due("j " + far, x.than(true, 2, far, 0), 0);
            check.due("i " + far, x.than(true, 2, 0, far), 0);
        }
        PolicyText y = check.with("(node a(go 1(arg 0 less -1)(arg 0 less 2147483647)(arg 0 less -2147483648)a))");
        check.due("-1", y.than(true, 0, 0, 0), -1);
        check.due("the most", y.than(true, 0, 0, 1), Integer.MAX_VALUE);
        check.due("the least", y.than(true, 0, 0, 2), Integer.MIN_VALUE);
    }

    /** A WAY for each number of a CALL 0 .. 15. */
    private static final String NUMBERS = "(node a(go 0 a)(go 1 a)(go 2 a)(go 3 a)(go 4 a)(go 5 a)(go 6 a)(go 7 a))"
            + "(node b(go 8 a)(go 9 a)(go 10 a)(go 11 a)(go 12 a)(go 13 a)(go 14 a)(go 15 a))";

    private static void numberIs(PolicyText x, int number) {
        for (int n = 0; n < 16; n++) {
            check.due("CALL " + number + ", WAY of " + n, x.holds(true, n / 8, n % 8), n == number);
        }
    }

    private static void callIsZeroAtFirst() {
        check.sentence("14: The CALL, which is number 0 at first");
        PolicyText x = check.with(NUMBERS);
        numberIs(x, 0);
        PolicyText y = check.with("(node a(go any(arg 0 less 1)a)(go any(not(arg 0 less 1))a))");
        check.due("it has no ARGUMENT", y.holds(true, 0, 0), false);
        check.due("it has no ARGUMENT", y.holds(true, 0, 1), true);
    }

    private static void callKnowsItsNumbers() {
        check.sentence("14: true; false if there is no such number");
        for (int number = 0; number < 16; number++) {
            PolicyText x = check.with(NUMBERS);
            check.due("call " + number, x.call(number, 1, 2, 3), true);
            numberIs(x, number);
            for (int none : new int[] {-1, 16, 17, 31, 32, -16, 256, Integer.MIN_VALUE, Integer.MAX_VALUE}) {
                check.due("call " + none, x.call(none, 9, 9, 9), false);
            }
            numberIs(x, number);
        }
    }

    private static void callLooksAtItsArgumentsOnly() {
        check.sentence("14: with these ARGUMENTS (those that it has; others are not looked at)");
        PolicyText x = check.with("(node a(go any(arg 0 same 7)a)(go any(arg 1 same 7)a)(go any(arg 2 same 7)a))");
        for (int number = 0; number < 16; number++) {
            check.due("call", x.call(number, 7, 7, 7), true);
            for (int i = 0; i < 3; i++) {
                check.due("CALL " + number + ", ARGUMENT " + i, x.holds(true, 0, i), i < number % 4);
            }
        }
        x.call(3, 7, 7, 7);
        x.call(1, 7, 0, 0);
        x.call(3, 0, 0, 7);
        check.due("ARGUMENT 0 is new", x.holds(true, 0, 0), false);
        check.due("ARGUMENT 1 is new", x.holds(true, 0, 1), false);
        check.due("ARGUMENT 2 is new", x.holds(true, 0, 2), true);
    }

    private static void holdsNeedsTheNumber() {
        check.sentence("15: its C is the CALL's number, or any");
        for (int c = 0; c < 16; c++) {
            PolicyText x = check.with("(counter c 1(up " + c + ")(zero any))(node a(go " + c + " a)(go any a))");
            for (int number = 0; number < 16; number++) {
                x.call(number, 0, 0, 0);
                check.due("WAY of " + c + ", CALL " + number, x.holds(true, 0, 0), number == c);
                check.due("WAY of any", x.holds(true, 0, 1), true);
                check.due("RULE of " + c + ", CALL " + number, x.holds(false, 0, 0), number == c);
                check.due("RULE of any", x.holds(false, 0, 1), true);
            }
        }
    }

    private static void holdsNeedsAllTests() {
        check.sentence("15: and all of its TESTS are true of the CALL, COUNTERS as they stand");
        String tests = "(arg 0 same 1)(arg 1 same 1)(not(arg 2 same 0))(count c same 1)";
        PolicyText x = check.with("(counter c 1(up 3" + tests + "))(node a(go any" + tests + "a))");
        for (int bits = 0; bits < 16; bits++) {
            x.call(3, bits & 1, bits >> 1 & 1, bits >> 2 & 1);
            x.stand(0, bits >> 3);
            check.due("WAY with " + bits, x.holds(true, 0, 0), bits == 15);
            check.due("RULE with " + bits, x.holds(false, 0, 0), bits == 15);
        }
        x.call(2, 1, 1, 1);
        check.due("another CALL, any", x.holds(true, 0, 0), true);
        check.due("another CALL, 3", x.holds(false, 0, 0), false);
    }

    private static void holdsOfNone() {
        check.sentence("15: false if there is none such");
        PolicyText x = check.with("(counter c 1(up any)(up any))(node a(go any a)(go any a)(go any a))");
        for (int k = -2; k < 4; k++) {
            for (int j = -2; j < 10; j++) {
                check.due("WAY " + j + " of " + k, x.holds(true, k, j), k == 0 && j >= 0 && j < 3);
                check.due("RULE " + j + " of " + k, x.holds(false, k, j), k == 0 && j >= 0 && j < 2);
            }
        }
        for (int far : BELOW) {
            check.due("k " + far, x.holds(true, far, 0) || x.holds(false, far, 0), false);
            check.due("j " + far, x.holds(true, 0, far) || x.holds(false, 0, far), false);
        }
        check.due("most", x.holds(true, Integer.MAX_VALUE, Integer.MAX_VALUE), false);
    }

    private static void makeCountsNodes() {
        check.sentence("16: how many NODES the WAYS that hold lead to from NODE k");
        StringBuilder text = new StringBuilder("(node z)(node x(go 5 w))(node y");
        for (int j = 0; j < 8; j++) {
            text.append("(go any(not(arg 0 less ").append(j).append("))").append((char) ('a' + j)).append(")");
        }
        text.append(")").append(Texts.nodes(21).replace("(node u)", "(node w)"));
        PolicyText x = check.with(text.toString());
        for (int reached = 0; reached <= 8; reached++) {
            x.call(1, reached - 1, 0, 0);
            check.due("of eight", x.make(2), reached);
            check.due("without WAYS", x.make(0), 0);
            check.due("of another CALL", x.make(1), 0);
        }
        x.call(5, 0, 0, 0);
        check.due("to the last NODE", x.make(1), 1);
        PolicyText y = check.with("(node a(go 1 a)(go any a)(go 1 b)(go any b)(go 2 c)(go 1 b))(node b)(node c)");
        y.call(1, 0, 0, 0);
        check.due("WAYS to the same NODE", y.make(0), 2);
        y.call(2, 0, 0, 0);
        check.due("all three", y.make(0), 3);
    }

    private static void makeOfNoNode() {
        check.sentence("16: NONE, and nothing changes, if there is no such NODE");
        PolicyText x = check.with("(counter c 15(up any))(node a)(node b)");
        for (int k : BELOW) {
            check.due("make(" + k + ")", x.make(k), -1);
        }
        for (int k : new int[] {2, 3, 23, 24, 32, 33, 256, Integer.MAX_VALUE}) {
            check.due("make(" + k + ")", x.make(k), -1);
        }
        check.due("it stands", x.counter(0, 2), 0);
        check.due("make(1)", x.make(1), 0);
        check.due("it stands", x.counter(0, 2), 1);
        check.due("make(0)", x.make(0), 0);
        check.due("it stands", x.counter(0, 2), 2);
        PolicyText most = check.with("(counter c 15(up any))" + Texts.nodes(24));
        check.due("make(23)", most.make(23), 0);
        check.due("make(24)", most.make(24), -1);
        check.due("it stands", most.counter(0, 2), 1);
    }

    private static void makeStopsAtM() {
        check.sentence("16: up: 1 more, at most m; zero: 0");
        for (int m = 1; m <= 15; m++) {
            PolicyText x = check.with("(counter c " + m + "(up 0)(zero 1))(node a)");
            for (int n = 1; n < 18; n++) {
                x.make(0);
                check.due(n + " times up of " + m, x.counter(0, 2), Math.min(n, m));
            }
            x.call(2, 0, 0, 0);
            x.make(0);
            check.due("no RULE held", x.counter(0, 2), m);
            x.call(1, 0, 0, 0);
            for (int n = 0; n < 2; n++) {
                x.make(0);
                check.due("zero", x.counter(0, 2), 0);
            }
        }
    }

    private static void makeTakesTheFirstRule() {
        check.sentence("16: of each the first one that held");
        PolicyText x = check.with("(counter a 9(up 1(arg 0 same 0))(zero 1)(up any))"
                + "(counter b 9(zero 1(arg 0 same 1))(up 1)(zero any))(counter c 9)(node a)");
        int[][] calls = {{1, 0, 6, 6, 5}, {1, 1, 0, 0, 5}, {1, 2, 0, 6, 5}, {2, 0, 6, 0, 5}, {0, 0, 6, 0, 5}};
        for (int[] one : calls) {
            for (int k = 0; k < 3; k++) {
                x.stand(k, 5);
            }
            x.call(one[0], one[1], 0, 0);
            x.make(0);
            for (int k = 0; k < 3; k++) {
                check.due("CALL " + one[0] + " " + one[1] + ", COUNTER " + k, x.counter(k, 2), one[2 + k]);
            }
        }
    }

    private static void makeAsksAheadOfMoving() {
        check.sentence("16: RULES .. that held ahead of that; the WAYS too");
        PolicyText x = check.with("(counter a 3(up any(count b same 0))(zero any(count b same 1)))"
                + "(counter b 3(up any(count a same 0))(zero any(count a same 1)))"
                + "(counter c 3(zero any(count c same 1))(up any(count c same 0)))"
                + "(node n(go any(count a same 0)n)(go any(count b same 1)m))(node m)");
        int[][] stands = {{1, 1, 1}, {0, 0, 0}, {1, 1, 1}};
        for (int[] want : stands) {
            check.due("NODES", x.make(0), 1);
            for (int k = 0; k < 3; k++) {
                check.due("COUNTER " + k, x.counter(k, 2), want[k]);
            }
        }
    }

    private static void makeMovesAllCounters() {
        check.sentence("16: then COUNTERS stand as RULES say, with 6 of them");
        StringBuilder text = new StringBuilder();
        for (int k = 0; k < 6; k++) {
            text.append("(counter ").append((char) ('a' + k)).append(" 15(zero 1)(zero 2)(zero 3)(up any(count ")
                    .append((char) ('a' + (k + 5) % 6)).append(k == 0 ? " less 15)))" : " more 0)))");
        }
        PolicyText x = check.with(text + "(node a(go any a))");
        for (int n = 1; n < 20; n++) {
            check.due("make", x.make(0), 1);
            for (int k = 0; k < 6; k++) {
                check.due("COUNTER " + k + " at " + n, x.counter(k, 2), Math.max(0, Math.min(n - k, 15)));
            }
        }
        x.call(3, 0, 0, 0);
        check.due("make", x.make(0), 1);
        for (int k = 0; k < 6; k++) {
            check.due("COUNTER " + k, x.counter(k, 2), 0);
        }
    }

    private static void byteAtKnowsItsPlaces() {
        check.sentence("17: Byte k of what was PRINTED (text false), or of the TEXT; NONE if there is none");
        for (int length = 0; length < 18; length++) {
            PolicyText x = new PolicyText();
            Check.give(x, "\0\1\177\200\376\377ghijklmnopqr".substring(0, length));
            x.print();
            for (int k = -2; k < 20; k++) {
                int want = k >= 0 && k < length ? "\0\1\177\200\376\377ghijklmnopqr".charAt(k) : -1;
                check.due("byteAt(" + k + ", true) of " + length, x.byteAt(k, true), want);
                int printed = k >= 0 && k < 9 ? "(node a)\n".charAt(k) : -1;
                check.due("byteAt(" + k + ", false)", x.byteAt(k, false), printed);
            }
        }
        PolicyText x = textOf(4096);
        check.due("byteAt(4095, true)", x.byteAt(4095, true), ' ');
        check.due("byteAt(4096, true)", x.byteAt(4096, true), -1);
        check.due("byteAt(4089, false)", x.byteAt(4089, false), '\n');
        check.due("byteAt(4090, false)", x.byteAt(4090, false), -1);
        for (int k : BELOW) {
            check.due("byteAt(" + k + ", true)", x.byteAt(k, true), -1);
            check.due("byteAt(" + k + ", false)", x.byteAt(k, false), -1);
        }
        for (int k : ABOVE) {
            check.due("byteAt(" + k + ", true)", x.byteAt(k, true), -1);
            check.due("byteAt(" + k + ", false)", x.byteAt(k, false), -1);
        }
    }

    private static void lookCounts() {
        check.sentence("18: 0: COUNTERS, 1: NODES, 2: bytes of the TEXT, 3: that were PRINTED, 6: TESTS in all");
        PolicyText x = check.with(POLICY);
        check.due("print", x.print() > 0, true);
        int[] want = {2, 3, POLICY.length(), x.print(), 0, -1, 9};
        for (int which = 0; which < want.length; which++) {
            check.due("look(" + which + ")", x.look(which), want[which]);
        }
        x.give('?', 1);
        check.due("one more byte", x.look(2), POLICY.length() + 1);
        check.due("fault of it", x.read(), 1);
        check.due("TESTS stay", x.look(6), 9);
        check.due("none", Check.readOf(x, "(node a)"), 0);
        check.due("no TESTS", x.look(6), 0);
    }

    private static void lookSaysTheLatestFault() {
        check.sentence("18: 4: the fault of the latest read() (0 without one), 5: its place (NONE without one)");
        PolicyText x = new PolicyText();
        String[] texts = {"(node a)?", "(node a)", "(node a))", "(node a", "(node b)", "", "(node a(go 1 b))",
            "(node a(go 0(arg 2 less 1)a))", "(node c)"};
        int[] faults = {1, 0, 2, 3, 0, 4, 5, 6, 0};
        int[] places = {8, -1, 8, 7, -1, 0, 13, 17, -1};
        for (int n = 0; n < texts.length; n++) {
            int before = x.look(4);
            x.cut(0);
            Check.give(x, texts[n]);
            x.print();
            check.due("fault ahead of read", x.look(4), before);
            x.read();
            check.due("fault of " + texts[n], x.look(4), faults[n]);
            check.due("place in " + texts[n], x.look(5), places[n]);
        }
    }

    private static void lookOfNone() {
        check.sentence("18: NONE for any other which");
        PolicyText x = check.with(POLICY);
        for (int which : BELOW) {
            check.due("look(" + which + ")", x.look(which), -1);
        }
        for (int which : new int[] {7, 8, 16, 32, 64, 256, 65536, Integer.MAX_VALUE}) {
            check.due("look(" + which + ")", x.look(which), -1);
        }
    }

    private static void the512thCall() {
        check.sentence("An object is used for at most 512 calls");
        PolicyText x = new PolicyText();
        for (int n = 1; n <= 512; n++) {
            check.due("call " + n + ", a give of 8", x.give(0x2020202020202020L, 8), true);
        }
        PolicyText y = check.with("(counter c 15(up any(count c less 15))(zero any))(node a(go any a))");
        int calls = 1 + 9 + 1;
        for (int stand = 1; calls < 510; calls += 2) {
            check.due("make", y.make(0), 1);
            check.due("it stands", y.counter(0, 2), stand % 16);
            stand++;
        }
    }
}
