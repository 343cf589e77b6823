/** For each promise of the document: ordinary inputs, the edges it names, and wrong inputs. */
public final class PromiseTests {
    private static final Check check = new Check();

    private static final String DOOR =
            "(counter tries 3 (up 1 (arg 0 less 5)) (zero any))\n"
            + "(counter opened 15)\n"
            + "(node shut (go 1 (arg 0 same 7) open) (go 1 open) (go 2 (not (count tries less 2)) shut))\n"
            + "(node open (go any (not (not (not (arg 2 more -3)))) shut))\n";

    private static final String MOVING =
            "(counter a 2(up 1)(zero 1)(zero 2))(counter b 15(up 1(count a same 1)))"
            + "(counter c 3(zero 1(count c more 1))(up 1))"
            + "(node n(go 1 n)(go 1 m)(go any m)(go 2(count a less 2)o)(go 1(count a same 0)o))"
            + "(node m)(node o(go 2(not(count a same 2))o))";

    public static void main(String[] args) {
        newObject();
        give();
        cut();
        poke();
        read();
        print();
        turnOver();
        stand();
        counter();
        node();
        clause();
        test();
        than();
        call();
        holds();
        make();
        makeMovesCounters();
        byteAt();
        look();
        check.end();
    }

    private static String repeat(String part, int times) {
        return part.repeat(times);
    }

    private static void newObject() {
        check.due("NONE", PolicyText.NONE, -1);
        PolicyText x = new PolicyText();
        int[] want = {0, 1, 0, 0, 0, -1, 0};
        for (int which = 0; which < want.length; which++) {
            check.due("new: look(" + which + ")", x.look(which), want[which]);
        }
        check.due("new: ways of its node", x.node(0, 0), 0);
        check.due("new: letters of its node", x.node(0, 1), 1);
        check.due("new: print", x.print(), 9);
        check.due("new: printed", Check.bytes(x, false), "(node a)\n");
    }

    private static void give() {
        PolicyText x = new PolicyText();
        check.due("give of 8", x.give(0x0102030405060708L, 8), true);
        check.due("give of 3 lowest", x.give(0xFFFFFFFFFF8090A0L, 3), true);
        check.due("give of 1", x.give(-1L, 1), true);
        check.due("given", Check.bytes(x, true), "\1\2\3\4\5\6\7\b\u0080\u0090\u00a0\u00ff");
        int[] wrong = {0, 9, -1, Integer.MIN_VALUE, Integer.MAX_VALUE};
        for (int n : wrong) {
            check.due("give with n " + n, x.give(5L, n), false);
        }
        check.due("bytes after wrong gives", x.look(2), 12);
        PolicyText full = almostFull();
        check.due("give beyond the room", full.give(0L, 4), false);
        check.due("bytes stay", full.look(2), 4093);
        check.due("give into the room", full.give(0x2020202020202020L, 3), true);
        check.due("all bytes", full.look(2), 4096);
        check.due("give into none", full.give(32L, 1), false);
        check.due("cut of all", full.cut(4096), true);
        check.due("last byte", full.byteAt(4095, true), 32);
        check.due("byte behind", full.byteAt(4096, true), -1);
    }

    /** A TEXT of 4093 bytes in fewer than 512 calls: PRINTED it is longer than given. */
    private static PolicyText almostFull() {
        PolicyText x = check.with(Texts.wide(162));
        check.due("a wide policy PRINTED", x.print(), 4077);
        check.due("turnOver of it", x.turnOver(), true);
        x.give(0x2020202020202020L, 8);
        x.give(0x2020202020202020L, 8);
        return x;
    }

    private static void cut() {
        PolicyText x = new PolicyText();
        check.due("cut(1) of none", x.cut(1), false);
        check.due("cut(0) of none", x.cut(0), true);
        Check.give(x, "abcdefghij");
        check.due("cut(11) of 10", x.cut(11), false);
        check.due("cut(-1)", x.cut(-1), false);
        check.due("cut(10) of 10", x.cut(10), true);
        check.due("bytes", Check.bytes(x, true), "abcdefghij");
        check.due("cut(9)", x.cut(9), true);
        check.due("cut(10) of 9", x.cut(10), false);
        Check.give(x, "z");
        check.due("bytes", Check.bytes(x, true), "abcdefghiz");
    }

    private static void poke() {
        PolicyText x = new PolicyText();
        check.due("poke(0) of none", x.poke(0, 1), false);
        Check.give(x, "abcdefghij");
        check.due("poke(-1)", x.poke(-1, 65), false);
        check.due("poke(10)", x.poke(10, 65), false);
        check.due("poke(0)", x.poke(0, 0x1FF), true);
        check.due("poke(9)", x.poke(9, 'Z'), true);
        check.due("poke(7)", x.poke(7, -2), true);
        check.due("bytes", Check.bytes(x, true), "\u00ffbcdefg\u00feiZ");
    }

    private static void read() {
        PolicyText x = check.with(DOOR);
        x.stand(0, 3);
        check.due("TEXT stays", Check.bytes(x, true), DOOR);
        check.due("a fault", Check.readOf(x, "(node a"), 3);
        check.due("nodes stay", x.look(1), 2);
        check.due("a COUNTER stays", x.counter(0, 2), 3);
        check.due("read again", Check.readOf(x, DOOR), 0);
        check.due("COUNTERS at 0", x.counter(0, 2), 0);
        rightTexts();
        faultsOfTokens();
        faultsOfShape();
        faultsOfLimits();
        faultsOfNames();
        faultsOfEnds();
        faultsOfLinks();
    }

    private static void rightTexts() {
        String[] right = {
            "(node a)", "\n( node\na ) ", "(node abcdefghijkl)", "(node a(go 15 a))",
            "(node a(go 00000000000000000000015 a))", "(node a(go -0 a))",
            "(counter a 1)(node a(go 1(count a same 1)a))",
            "(counter a 15(up any(count b same 1)))(counter b 015)(node x(go 0 y))(node y)",
            "(node a(go 3(arg 2 less -2147483648)(arg 1 more 2147483647)a))",
            "(node a(go 1" + repeat("(arg 0 less -000000000000002147483648)", 4) + "a))",
            "(node a(go any(arg 0 less 1)(arg 1 less 1)(arg 2 less 1)a))",
            "(node a(go 1" + repeat("(not", 300) + "(arg 0 less 1)" + repeat(")", 300) + "a))",
            "(node nodes(go 1 ups))(node ups)(node anyone)(node lesser)",
            "(node a(go 7(arg 2 same 0)a)(go 11(arg 2 same 0)a)(go 6(arg 1 same 0)a)(go 13(arg 0 same 0)a))",
            "(node a" + repeat("(go 0 a)", 8) + ")",
            "(counter a 1" + repeat("(up 0)(zero 0)", 2) + ")(node a)",
        };
        for (String text : right) {
            check.fault(text, 0, -1);
        }
    }

    private static void faultsOfTokens() {
        check.fault("A", 1, 0);
        check.fault("(node a)\t", 1, 8);
        check.fault("(node a)\r", 1, 8);
        check.fault("(node a)\0", 1, 8);
        check.fault("(node a)\u00ff", 1, 8);
        check.fault("(node a)\u00a8", 1, 8);
        check.fault("(node abcdefghijklm)", 1, 6);
        check.fault("(node aB)", 1, 7);
        check.fault("(node a1)", 1, 6);
        check.fault("(node a-)", 1, 6);
        check.fault("(node -)", 1, 6);
        check.fault("(node --1)", 1, 6);
        check.fault("(node 1-1)", 1, 6);
        check.fault("(node 1a)", 1, 6);
        check.fault("(node a(go 1 (arg 0 less 2147483648) a))", 1, 25);
        check.fault("(node a(go 1 (arg 0 less -2147483649) a))", 1, 25);
        check.fault("(node a(go 1 (arg 0 less 99999999999999999999999) a))", 1, 25);
        check.fault("(node a(go 1 (arg 0 less 18446744073709551617) a))", 1, 25);
        check.fault("(node a(go 1a))", 1, 11);
        check.fault("x A", 2, 0);
        check.fault("(node a) x A", 2, 9);
        check.fault("(nodea)", 2, 1);
        check.fault("(node`", 1, 5);
        check.fault("(node{", 1, 5);
        check.fault("(node/", 1, 5);
        check.fault("(node:", 1, 5);
        check.fault("(node a*", 1, 7);
    }

    private static void faultsOfShape() {
        check.fault(")", 2, 0);
        check.fault("node", 2, 0);
        check.fault("7", 2, 0);
        check.fault("((", 2, 1);
        check.fault("()", 2, 1);
        check.fault("(7", 2, 1);
        check.fault("(go", 2, 1);
        check.fault("(mode a)", 2, 1);
        check.fault("(noda a)", 2, 1);
        check.fault("(node a(ho 1 a))", 2, 8);
        check.fault("(node a(go ony a))", 2, 11);
        check.fault("(node a(go 1(org 0 less 1)a))", 2, 13);
        check.fault("(node(", 2, 5);
        check.fault("(node)", 2, 5);
        check.fault("(node 1)", 2, 6);
        check.fault("(node a b)", 2, 8);
        check.fault("(node a 1)", 2, 8);
        check.fault("(node a))", 2, 8);
        check.fault("(node a(up 1 a))", 2, 8);
        check.fault("(node a(go a))", 2, 11);
        check.fault("(node a(go (", 2, 11);
        check.fault("(node a(go -1 a))", 2, 11);
        check.fault("(node a(go 16 a))", 2, 11);
        check.fault("(node a(go 1))", 2, 12);
        check.fault("(node a(go 1 2))", 2, 13);
        check.fault("(node a(go 1 a a))", 2, 15);
        check.fault("(node a(go 1 a(", 2, 14);
        check.fault("(node a(go 1 any any))", 2, 13);
        check.fault("(node a(go any any))", 2, 15);
        check.fault("(node a(go 1()a))", 2, 13);
        check.fault("(node a(go 1(up 1)a))", 2, 13);
        check.fault("(node a(go 1(arg a less 1)a))", 2, 17);
        check.fault("(node a(go 1(arg 3 less 1)a))", 2, 17);
        check.fault("(node a(go 1(arg -1 less 1)a))", 2, 17);
        check.fault("(node a(go 1(arg 0 lesser 1)a))", 2, 19);
        check.fault("(node a(go 1(arg 0 1 1)a))", 2, 19);
        check.fault("(node a(go 1(arg 0 less a)a))", 2, 24);
        check.fault("(node a(go 1(arg 0 less 1 1)a))", 2, 26);
        check.fault("(node a(go 1(arg 0 less 1(", 2, 25);
        check.fault("(node a(go 1(count 1 less 1)a))", 2, 19);
        check.fault("(node a(go 1(count more more 1)a))", 2, 19);
        check.fault("(node a(go 1(not)a))", 2, 16);
        check.fault("(node a(go 1(not arg 0 less 1)a))", 2, 17);
        check.fault("(node a(go 1(not(arg 0 less 1)(arg 0 less 1))a))", 2, 30);
        check.fault("(node a(go 1(not(not(arg 0 less 1)) a))", 2, 36);
        check.fault("(node a(go 1(not(arg 0 less 1)))a))", 2, 31);
        check.fault("(counter a)", 2, 10);
        check.fault("(counter a 0)", 2, 11);
        check.fault("(counter a 16)", 2, 11);
        check.fault("(counter a -1)", 2, 11);
        check.fault("(counter a b)", 2, 11);
        check.fault("(counter 1 1)", 2, 9);
        check.fault("(counter a 1 1)", 2, 13);
        check.fault("(counter a 1(go 1 a))", 2, 13);
        check.fault("(counter a 1(up))", 2, 15);
        check.fault("(counter a 1(up a))", 2, 16);
        check.fault("(counter a 1(up 16))", 2, 16);
        check.fault("(counter a 1(zero 1 a))", 2, 20);
        check.fault("(counter a 1(zero 1 1))", 2, 20);
        check.fault("(node a)(counter c 3)", 2, 9);
        check.fault("(node a)(count", 2, 9);
    }

    private static void faultsOfLimits() {
        String rules = "(counter a 1" + repeat("(up 1)", 4);
        check.fault(rules + ")(node a)", 0, -1);
        check.fault(rules + "(up 1))(node a)", 2, rules.length());
        check.fault(rules + " (", 2, rules.length() + 1);
        String ways = "(node a" + repeat("(go 1 a)", 8);
        check.fault(ways + ")", 0, -1);
        check.fault(ways + "(go 1 a))", 2, ways.length());
        String tests = "(node a(go 1" + repeat("(arg 0 less 1)", 3) + "(not(arg 0 less 1))";
        check.fault(tests + "a))", 0, -1);
        check.fault(tests + "(arg 0 less 1)a))", 2, tests.length());
        String ruleTests = "(counter a 1(zero 1" + repeat("(arg 0 less 1)", 4);
        check.fault(ruleTests + "))(node a)", 0, -1);
        check.fault(ruleTests + "(not", 2, ruleTests.length());
        StringBuilder nodes = new StringBuilder();
        for (char c = 'a'; c < 'a' + 24; c++) {
            nodes.append("(node ").append(c).append(")");
        }
        check.fault(nodes.toString(), 0, -1);
        check.fault(nodes + " (node z)", 2, nodes.length() + 1);
        check.fault(nodes + "(counter z 1)", 2, nodes.length());
        check.fault(nodes + "z", 2, nodes.length());
        StringBuilder counters = new StringBuilder();
        for (char c = 'a'; c < 'a' + 6; c++) {
            counters.append("(counter ").append(c).append(" 1)");
        }
        check.fault(counters + "(node a)", 0, -1);
        check.fault(counters + "(counter z 1)", 2, counters.length() + 1);
    }

    private static void faultsOfNames() {
        String[] words = {"counter", "node", "up", "zero", "go", "arg", "count", "not", "any",
            "less", "same", "more"};
        for (String word : words) {
            check.fault("(node " + word + ")", 2, 6);
            check.fault("(counter " + word + " 1)(node a)", 2, 9);
            check.fault("(node a(go 1 " + word + "))", 2, 13);
            check.fault("(node a(go 1(count " + word + " less 1)a))", 2, 19);
            check.fault("(node " + word + "s)(node x" + word + ")", 0, -1);
        }
        check.fault("(node a)(node b)(node a)", 2, 22);
        check.fault("(counter a 1)(counter b 1)(counter a 1)", 2, 35);
        check.fault("(counter a 1)(node a)", 0, -1);
        check.fault("(node a)(node aa)(node aaa)", 0, -1);
        check.fault("(node abcdefghijkl)(node abcdefghijkm)(node abcdefghijkl)", 2, 44);
    }

    private static void faultsOfEnds() {
        String whole = "(counter a 1 (up 1 (not (arg 0 less 1))))";
        for (int n = 1; n < whole.length(); n++) {
            if (endsToken(whole, n)) {
                check.fault(whole.substring(0, n), 3, n);
                check.fault(whole.substring(0, n) + "  \n", 3, n + 3);
            }
        }
        check.fault("", 4, 0);
        check.fault(" \n ", 4, 3);
        check.fault(whole, 4, whole.length());
        check.fault(whole + "\n", 4, whole.length() + 1);
        check.fault("(counter a 1(up 1(count z less 1)))", 4, 35);
        check.fault("(counter a 1(up 0(arg 0 less 1)))", 4, 33);
        check.fault("(node a(go 1 a)", 3, 15);
        check.fault("(node a(go 1 a", 3, 14);
        check.fault("(node a(go 1 zz)", 3, 16);
    }

    private static boolean endsToken(String text, int n) {
        return !(Character.isLetter(text.charAt(n - 1)) && Character.isLetter(text.charAt(n)));
    }

    private static void faultsOfLinks() {
        check.fault("(node a(go 1 b))", 5, 13);
        check.fault("(node a(go 1 aa))(node b)", 5, 13);
        check.fault("(counter b 1)(node a(go 1 b))", 5, 26);
        check.fault("(node a(go 1(count a less 1)a))", 5, 19);
        check.fault("(node a(go 1(not(count zz less 1))a))", 5, 23);
        check.fault("(counter c 1(up 1(count d less 1)))(node a(go 1 b))", 5, 24);
        check.fault("(node a(go 0(arg 0 less 1)a))", 6, 17);
        check.fault("(node a(go 4(arg 0 less 1)a))", 6, 17);
        check.fault("(node a(go 5(arg 1 less 1)a))", 6, 17);
        check.fault("(node a(go 14(arg 2 less 1)a))", 6, 18);
        check.fault("(node a(go 1(arg 0 less 1)(not(arg 1 less 1))zz))", 6, 35);
        check.fault("(node a(go 1(count c less 1)(arg 2 less 1)a))", 5, 19);
        check.fault("(node a(go 1 zz)(go 0(arg 0 less 1)a))", 5, 13);
        check.fault("(node a(go 0(arg 0 less 1)a)(go 1 zz))", 6, 17);
        check.fault("(counter c 1(up 1(arg 1 less 1)))(node a(go 1 zz))", 6, 22);
        check.fault("(node a(go 0(arg 0 less 1)a))(node a)", 2, 35);
        check.fault("(node a(go 1 zz))(", 3, 18);
        check.fault("(node a(go 1 zz))\t", 1, 17);
    }

    private static void printsAs(String text, String want) {
        PolicyText x = check.with(text);
        check.due("print of " + text, x.print(), want.length());
        check.due("PRINTED " + text, Check.bytes(x, false), want);
        check.due("TEXT of " + text, Check.bytes(x, true), text);
    }

    private static void print() {
        printsAs(" ( node\n\na ) ", "(node a)\n");
        printsAs("(node a(go 007 b)(go -0 a))(node b)", "(node a (go 7 b) (go 0 a))\n(node b)\n");
        printsAs("(counter abcdefghijkl 015(up any)(zero 3(arg 02 same -0)))(node zzzzzzzzzzzz)",
                "(counter abcdefghijkl 15 (up any) (zero 3 (arg 2 same 0)))\n(node zzzzzzzzzzzz)\n");
        printsAs("(node a(go 1(not(not(arg 0 less 0)))(not(not(not(arg 0 more 0010))))a))",
                "(node a (go 1 (arg 0 less 0) (not (arg 0 more 10)) a))\n");
        printsAs("(counter c 1)(counter d 9)(node a(go any(count d less -2147483648)"
                + "(count c more 2147483647)(not(count d same -0001000000000))(count c same 999999999)a))",
                "(counter c 1)\n(counter d 9)\n(node a (go any (count d less -2147483648)"
                + " (count c more 2147483647) (not (count d same -1000000000)) (count c same 999999999) a))\n");
        printsAs("(counter c 1(zero 2)(up 1(count c less 1)))(node az)",
                "(counter c 1 (zero 2) (up 1 (count c less 1)))\n(node az)\n");
        PolicyText x = check.with(DOOR);
        x.print();
        Check.readOf(x, "(node b)");
        check.due("PRINTED stays", x.look(3), DOOR.length() - 12);
        check.due("print of the next", x.print(), 9);
        check.due("PRINTED", Check.bytes(x, false), "(node b)\n");
        Check.readOf(x, "(node");
        check.due("print after a fault", x.print(), 9);
    }

    private static void turnOver() {
        PolicyText x = new PolicyText();
        Check.give(x, "abc");
        check.due("turnOver of nothing PRINTED", x.turnOver(), true);
        check.due("no TEXT", x.look(2), 0);
        Check.readOf(x, DOOR);
        x.print();
        String printed = Check.bytes(x, false);
        check.due("turnOver", x.turnOver(), true);
        check.due("TEXT", Check.bytes(x, true), printed);
        check.due("PRINTED stays", Check.bytes(x, false), printed);
        check.due("poke", x.poke(0, 'x'), true);
        check.due("PRINTED is not the TEXT", x.byteAt(0, false), '(');
        String most = Texts.wide(169);
        PolicyText large = check.with(most);
        int length = large.print();
        check.due("more than 4096 PRINTED", length > 4096, true);
        check.due("turnOver of too many", large.turnOver(), false);
        check.due("TEXT stays", large.look(2), most.length());
        check.due("last byte stays", large.byteAt(most.length() - 1, true), ')');
        check.due("PRINTED stays", large.byteAt(length - 1, false), '\n');
        exactlyFull();
    }

    /** 4096 bytes PRINTED are the TEXT, 4097 are not. */
    private static void exactlyFull() {
        PolicyText x = check.with(Texts.wide(162) + "(node zzzzzzzzzzz)");
        check.due("print of 4096", x.print(), 4096);
        check.due("turnOver of 4096", x.turnOver(), true);
        check.due("TEXT of 4096", x.look(2), 4096);
        check.due("its last byte", x.byteAt(4095, true), '\n');
        check.due("read of 4096", x.read(), 0);
        PolicyText y = check.with(Texts.wide(162) + "(node zzzzzzzzzzzz)");
        check.due("print of 4097", y.print(), 4097);
        check.due("turnOver of 4097", y.turnOver(), false);
    }

    private static void stand() {
        PolicyText x = new PolicyText();
        check.due("stand without COUNTERS", x.stand(0, 0), false);
        x = check.with(DOOR);
        check.due("stand at m", x.stand(0, 3), true);
        check.due("stands at m", x.counter(0, 2), 3);
        check.due("stand above m", x.stand(0, 4), false);
        check.due("stand below 0", x.stand(0, -1), false);
        check.due("stays at m", x.counter(0, 2), 3);
        check.due("stand at 15", x.stand(1, 15), true);
        check.due("stand at 16", x.stand(1, 16), false);
        check.due("stand at 0", x.stand(1, 0), true);
        check.due("stand of COUNTER 2", x.stand(2, 0), false);
        check.due("stand of COUNTER -1", x.stand(-1, 0), false);
        check.due("stand of COUNTER least", x.stand(Integer.MIN_VALUE, 0), false);
    }

    private static void counter() {
        PolicyText x = check.with(DOOR);
        x.stand(1, 14);
        int[][] want = {{3, 2, 0, 5}, {15, 0, 14, 6}};
        for (int k = 0; k < 2; k++) {
            for (int what = 0; what < 4; what++) {
                check.due("counter(" + k + ", " + what + ")", x.counter(k, what), want[k][what]);
            }
            check.due("counter what 4", x.counter(k, 4), -1);
            check.due("counter what -1", x.counter(k, -1), -1);
        }
        check.due("counter 2", x.counter(2, 0), -1);
        check.due("counter -1", x.counter(-1, 0), -1);
        check.due("letters of 12", check.with("(counter abcdefghijkl 1)(node a)").counter(0, 3), 12);
    }

    private static void node() {
        PolicyText x = check.with(DOOR + "(node abcdefghijkl)");
        int[][] want = {{3, 4}, {1, 4}, {0, 12}};
        for (int k = 0; k < 3; k++) {
            check.due("node(" + k + ", 0)", x.node(k, 0), want[k][0]);
            check.due("node(" + k + ", 1)", x.node(k, 1), want[k][1]);
            check.due("node what 2", x.node(k, 2), -1);
            check.due("node what -1", x.node(k, -1), -1);
        }
        check.due("node 3", x.node(3, 0), -1);
        check.due("node -1", x.node(-1, 1), -1);
    }

    private static void clauseIs(PolicyText x, boolean ways, int k, int j, int... want) {
        for (int what = 0; what < 3; what++) {
            check.due("clause(" + ways + ", " + k + ", " + j + ", " + what + ")",
                    x.clause(ways, k, j, what), want[what]);
        }
        check.due("clause what 3", x.clause(ways, k, j, 3), -1);
        check.due("clause what -1", x.clause(ways, k, j, -1), -1);
    }

    private static void clause() {
        PolicyText x = check.with(DOOR);
        clauseIs(x, false, 0, 0, 1, 1, 1);
        clauseIs(x, false, 0, 1, 16, 0, 0);
        clauseIs(x, false, 0, 2, -1, -1, -1);
        clauseIs(x, false, 0, -1, -1, -1, -1);
        clauseIs(x, false, 1, 0, -1, -1, -1);
        clauseIs(x, false, 2, 0, -1, -1, -1);
        clauseIs(x, false, -1, 0, -1, -1, -1);
        clauseIs(x, true, 0, 0, 1, 1, 1);
        clauseIs(x, true, 0, 1, 1, 0, 1);
        clauseIs(x, true, 0, 2, 2, 1, 0);
        clauseIs(x, true, 0, 3, -1, -1, -1);
        clauseIs(x, true, 1, 0, 16, 1, 0);
        clauseIs(x, true, 2, 0, -1, -1, -1);
    }

    private static void testIs(PolicyText x, boolean ways, int k, int j, int i, int... want) {
        for (int what = 0; what < 4; what++) {
            check.due("test(" + ways + ", " + k + ", " + j + ", " + i + ", " + what + ")",
                    x.test(ways, k, j, i, what), want[what]);
        }
        check.due("test what 4", x.test(ways, k, j, i, 4), -1);
        check.due("test what -1", x.test(ways, k, j, i, -1), -1);
    }

    private static void test() {
        PolicyText x = check.with(DOOR);
        testIs(x, false, 0, 0, 0, 0, 0, 0, 0);
        testIs(x, false, 0, 0, 1, -1, -1, -1, -1);
        testIs(x, false, 0, 0, -1, -1, -1, -1, -1);
        testIs(x, false, 0, 1, 0, -1, -1, -1, -1);
        testIs(x, false, 0, 2, 0, -1, -1, -1, -1);
        testIs(x, false, 3, 0, 0, -1, -1, -1, -1);
        testIs(x, true, 0, 0, 0, 0, 0, 1, 0);
        testIs(x, true, 0, 2, 0, 1, 0, 0, 1);
        testIs(x, true, 1, 0, 0, 0, 2, 2, 1);
        testIs(x, true, 2, 0, 0, -1, -1, -1, -1);
        x = check.with("(counter a 1)(counter b 1)(counter c 1)(counter d 1)(counter e 1)(counter f 1)"
                + "(node a(go 2(count f more 0)(not(not(count c same 0)))(arg 1 less 0)a))");
        testIs(x, true, 0, 0, 0, 1, 5, 2, 0);
        testIs(x, true, 0, 0, 1, 1, 2, 1, 0);
        testIs(x, true, 0, 0, 2, 0, 1, 0, 0);
        testIs(x, true, 0, 0, 3, -1, -1, -1, -1);
        x = check.with("(counter a 1(up 1(count b less 1)))(counter b 1)(node a)");
        testIs(x, false, 0, 0, 0, 1, 1, 0, 0);
    }

    private static void than() {
        PolicyText x = check.with("(counter a 1(up 1(arg 0 less 2147483647)(arg 0 less -2147483648)))"
                + "(node a(go 0(count a more -7)a))");
        check.due("than", x.than(false, 0, 0, 0), Integer.MAX_VALUE);
        check.due("than", x.than(false, 0, 0, 1), Integer.MIN_VALUE);
        check.due("than", x.than(true, 0, 0, 0), -7);
        check.due("than of TEST 2", x.than(false, 0, 0, 2), 0);
        check.due("than of TEST -1", x.than(false, 0, 0, -1), 0);
        check.due("than of RULE 1", x.than(false, 0, 1, 0), 0);
        check.due("than of WAY 1", x.than(true, 0, 1, 0), 0);
        check.due("than of NODE 1", x.than(true, 1, 0, 0), 0);
        check.due("than of COUNTER -1", x.than(false, -1, 0, 0), 0);
    }

    private static void call() {
        PolicyText x = check.with("(node a(go 0 a)(go 15(arg 0 same 1)(arg 1 same 2)(arg 2 same 3)a))");
        check.due("the CALL is 0 at first", x.holds(true, 0, 0), true);
        check.due("call 16", x.call(16, 1, 2, 3), false);
        check.due("call -1", x.call(-1, 1, 2, 3), false);
        check.due("the CALL is 0", x.holds(true, 0, 0), true);
        check.due("call 15", x.call(15, 1, 2, 3), true);
        check.due("the CALL is not 0", x.holds(true, 0, 0), false);
        check.due("the CALL is 15", x.holds(true, 0, 1), true);
        check.due("call 16", x.call(16, 0, 0, 0), false);
        check.due("the CALL stays", x.holds(true, 0, 1), true);
        check.due("the CALL stays over read()", x.read(), 0);
        check.due("the CALL stays", x.holds(true, 0, 1), true);
        x.call(15, 1, 2, 4);
        check.due("another ARGUMENT", x.holds(true, 0, 1), false);
        check.due("call 0", x.call(0, 1, 2, 3), true);
        check.due("the CALL is 0 again", x.holds(true, 0, 0), true);
        check.due("call least", x.call(Integer.MIN_VALUE, 1, 2, 3), false);
        check.due("call most", x.call(Integer.MAX_VALUE, 1, 2, 3), false);
    }

    private static void holds() {
        PolicyText x = check.with("(counter c 9(up 1(count c same 4))(zero any(count c more 4)))"
                + "(node a(go any(arg 0 less 5)a)(go any(arg 1 same 5)a)(go any(arg 2 more 5)a)"
                + "(go any(not(arg 1 same 5))a)(go 2(arg 0 less 0)(count c less 4)a)(go 2 a))");
        x.call(1, 4, 5, 6);
        boolean[] one = {true, false, false, true, false, false, false};
        for (int j = 0; j < one.length; j++) {
            check.due("one ARGUMENT, WAY " + j, x.holds(true, 0, j), one[j]);
        }
        x.call(3, 5, 5, 5);
        boolean[] three = {false, true, false, false, false, false, false};
        for (int j = 0; j < three.length; j++) {
            check.due("three ARGUMENTS, WAY " + j, x.holds(true, 0, j), three[j]);
        }
        x.call(2, -1, 0, 6);
        boolean[] two = {true, false, false, true, true, true, false};
        for (int j = 0; j < two.length; j++) {
            check.due("two ARGUMENTS, WAY " + j, x.holds(true, 0, j), two[j]);
        }
        x.stand(0, 4);
        check.due("COUNTER at 4", x.holds(true, 0, 4), false);
        check.due("RULE of another call", x.holds(false, 0, 0), false);
        check.due("RULE, more than 4", x.holds(false, 0, 1), false);
        x.stand(0, 5);
        check.due("RULE, more than 4", x.holds(false, 0, 1), true);
        x.call(1, 0, 0, 0);
        x.stand(0, 4);
        check.due("RULE, same as 4", x.holds(false, 0, 0), true);
        check.due("no RULE", x.holds(false, 0, 2), false);
        check.due("no COUNTER", x.holds(false, 1, 0), false);
        check.due("no NODE", x.holds(true, 1, 0), false);
        check.due("no WAY", x.holds(true, 0, -1), false);
        x = check.with("(node a(go 1(arg 0 less -2147483648)a)(go 1(arg 0 more -2147483648)a)"
                + "(go 1(arg 0 more 2147483647)a)(go 1(arg 0 less 2147483647)a))");
        x.call(1, Integer.MIN_VALUE, 0, 0);
        check.due("least is less", x.holds(true, 0, 0), false);
        check.due("least is more", x.holds(true, 0, 1), false);
        check.due("least is less than most", x.holds(true, 0, 3), true);
        x.call(1, Integer.MAX_VALUE, 0, 0);
        check.due("most is more than least", x.holds(true, 0, 1), true);
        check.due("most is more", x.holds(true, 0, 2), false);
    }

    private static void make() {
        PolicyText x = check.with(MOVING);
        check.due("make of call 0", x.make(0), 1);
        standsAt(x, 0, 0, 0);
        x.call(1, 0, 0, 0);
        check.due("make, no such NODE", x.make(3), -1);
        check.due("make, no such NODE", x.make(-1), -1);
        standsAt(x, 0, 0, 0);
        check.due("three NODES", x.make(0), 3);
        standsAt(x, 1, 0, 1);
        check.due("two NODES", x.make(0), 2);
        standsAt(x, 2, 1, 2);
        check.due("no WAYS", x.make(1), 0);
        standsAt(x, 2, 1, 0);
        x = check.with("(counter c 1(zero 1)(zero 1)(zero 1))(node a(go 1 b)(go 1 c)(go 1 d)(go 1 b))"
                + "(node b)(node c)(node d)");
        x.call(1, 0, 0, 0);
        check.due("b, c and d", x.make(0), 3);
    }

    private static void makeMovesCounters() {
        PolicyText x = check.with(MOVING);
        x.stand(0, 2);
        x.stand(1, 1);
        x.call(2, 0, 0, 0);
        check.due("before zero", x.make(2), 0);
        standsAt(x, 0, 1, 0);
        check.due("after zero", x.make(2), 1);
        check.due("m and o", x.make(0), 2);
        standsAt(x, 0, 1, 0);
    }

    private static void standsAt(PolicyText x, int... want) {
        for (int k = 0; k < want.length; k++) {
            check.due("COUNTER " + k + " stands", x.counter(k, 2), want[k]);
        }
    }

    private static void byteAt() {
        PolicyText x = new PolicyText();
        check.due("byteAt of no TEXT", x.byteAt(0, true), -1);
        check.due("byteAt of nothing PRINTED", x.byteAt(0, false), -1);
        Check.give(x, "\u00ff\0abcdefgh");
        x.print();
        check.due("byteAt(0, true)", x.byteAt(0, true), 255);
        check.due("byteAt(1, true)", x.byteAt(1, true), 0);
        check.due("byteAt(9, true)", x.byteAt(9, true), 'h');
        check.due("byteAt(10, true)", x.byteAt(10, true), -1);
        check.due("byteAt(-1, true)", x.byteAt(-1, true), -1);
        check.due("byteAt(0, false)", x.byteAt(0, false), '(');
        check.due("byteAt(8, false)", x.byteAt(8, false), '\n');
        check.due("byteAt(9, false)", x.byteAt(9, false), -1);
        check.due("byteAt(least, false)", x.byteAt(Integer.MIN_VALUE, false), -1);
        x.cut(4);
        check.due("byteAt behind a cut", x.byteAt(4, true), -1);
    }

    private static void look() {
        PolicyText x = check.with(DOOR);
        x.print();
        int[] want = {2, 2, DOOR.length(), DOOR.length() - 12, 0, -1, 4};
        for (int which = 0; which < want.length; which++) {
            check.due("look(" + which + ")", x.look(which), want[which]);
        }
        check.due("look(7)", x.look(7), -1);
        check.due("look(-1)", x.look(-1), -1);
        check.due("look(least)", x.look(Integer.MIN_VALUE), -1);
        x.cut(0);
        x.read();
        check.due("fault of the latest read", x.look(4), 4);
        check.due("its place", x.look(5), 0);
        Check.give(x, "(node a");
        x.cut(99);
        check.due("still of the latest read", x.look(4), 4);
        x.read();
        check.due("fault of the next", x.look(4), 3);
        check.due("its place", x.look(5), 7);
        check.due("TESTS stay", x.look(6), 4);
        Check.give(x, ")");
        x.read();
        check.due("no fault", x.look(4), 0);
        check.due("no place", x.look(5), -1);
        check.due("no TESTS", x.look(6), 0);
    }
}
