/** Each sentence of "Terms" that names a limit: at it, and on both sides of it. */
public final class TermsTests {
    private static final Check check = new Check();

    private static final String[] WORDS = {"counter", "node", "up", "zero", "go", "arg", "count",
        "not", "any", "less", "same", "more"};

    /** All places of a NAME: (what is ahead, what is behind); the NAME stands between. */
    private static final String[][] NAME_PLACES = {
        {"(node ", ")"}, {"(counter ", " 1)(node n)"}, {"(node n(go 1 ", "))"},
        {"(node n(go 1(count ", " less 1)n))"}
    };

    /** All places of the number of a CALL. */
    private static final String[][] CALL_PLACES = {
        {"(node n(go ", " n))"}, {"(counter c 1(up ", "))(node n)"}, {"(counter c 1(zero ", "))(node n)"}
    };

    /** All places where G can stand. */
    private static final String[][] TEST_PLACES = {
        {"(node n(go 1", " n))"}, {"(counter c 1(up 1", "))(node n)"}, {"(counter c 1(zero 1", "))(node n)"}
    };

    public static void main(String[] args) {
        callNumbers();
        argumentsOfCalls();
        argumentsInTexts();
        lettersOfNames();
        howManyLetters();
        mostNumbers();
        zerosAhead();
        numbersThatAreNone();
        numbersAtEachPlace();
        blanks();
        everyByteBetweenTokens();
        everyByteAtTheEnds();
        blanksThatHaveToBe();
        howManyCounters();
        tops();
        howManyRules();
        howManyNodes();
        howManyWays();
        callsOfClauses();
        howManyTests();
        testsWithinNot();
        argumentNumbers();
        operators();
        bounds();
        differentNames();
        usedAhead();
        wordsAreNoNames();
        argumentsCompared();
        countersCompared();
        turnedTests();
        firstFaultByPlace();
        faultsOfTokensThatAreNone();
        tokensThatCanNotBeThere();
        wordsThatAreNone();
        counterBehindNode();
        endsOfTexts();
        noNode();
        namesThatThereAreNot();
        linksInTheOrderOfTheText();
        turnedByOddNots();
        printedInOneWay();
        check.end();
    }

    private static String zeros(int many) {
        return "0".repeat(many);
    }

    private static void callNumbers() {
        check.sentence("A CALL has a number, 0 .. 15");
        for (int number = -2; number < 19; number++) {
            PolicyText x = new PolicyText();
            check.due("call " + number, x.call(number, 0, 0, 0), number >= 0 && number <= 15);
        }
    }

    private static void argumentsOfCalls() {
        check.sentence("number c has c modulo 4 ARGUMENTS, 0 .. 2, ints");
        PolicyText x = check.with("(node a(go any(arg 0 same -2147483648)a)"
                + "(go any(arg 1 same 2147483647)a)(go any(arg 2 same 0)a))");
        for (int number = 0; number < 16; number++) {
            x.call(number, Integer.MIN_VALUE, Integer.MAX_VALUE, 0);
            for (int i = 0; i < 3; i++) {
                check.due("CALL " + number + " has ARGUMENT " + i, x.holds(true, 0, i), i < number % 4);
            }
        }
    }

    private static void argumentsInTexts() {
        check.sentence("6: an ARGUMENT i that C does not have (i; with any each is right)");
        for (String[] place : CALL_PLACES) {
            for (int i = 0; i < 3; i++) {
                for (int number = 0; number < 16; number++) {
                    String ahead = place[0] + number + "(arg ";
                    boolean has = i < number % 4;
                    check.fault(ahead + i + " less 1)" + place[1], has ? 0 : 6, has ? -1 : ahead.length());
                    String turned = place[0] + number + "(not(not(arg ";
                    check.fault(turned + "0" + i + " less 1)))" + place[1],
                            has ? 0 : 6, has ? -1 : turned.length());
                }
                check.right(place[0] + "any(arg " + i + " less 1)" + place[1]);
            }
        }
    }

    private static void lettersOfNames() {
        check.sentence("a NAME of 1 to 12 letters a .. z");
        for (char c = 'a'; c <= 'z'; c++) {
            PolicyText x = check.with("(counter " + c + " 1)(node " + c + c + "(go 1 " + c + c + "))");
            x.print();
            check.due("PRINTED with " + c, Check.bytes(x, false),
                    "(counter " + c + " 1)\n(node " + c + c + " (go 1 " + c + c + "))\n");
        }
        check.fault("(node `)", 1, 6);
        check.fault("(node {)", 1, 6);
        check.fault("(node A)", 1, 6);
        check.fault("(node Z)", 1, 6);
        check.fault("(node aB)", 1, 7);
        check.fault("(node a_b)", 1, 7);
        check.fault("(node \u00e4)", 1, 6);
    }

    private static void howManyLetters() {
        check.sentence("or a NAME of more than 12 letters (its first byte)");
        String name = "abcdefghijkl";
        for (int n = 1; n <= 12; n++) {
            String own = name.substring(0, n);
            PolicyText x = check.with("(counter " + own + " 1)(node " + own + "(go 1(count " + own
                    + " less 1)" + own + "))");
            check.due("letters of a COUNTER", x.counter(0, 3), n);
            check.due("letters of a NODE", x.node(0, 1), n);
        }
        for (String[] place : NAME_PLACES) {
            int at = place[0].length();
            check.fault(place[0] + name + "m" + place[1], 1, at);
            check.fault(place[0] + name + name + place[1], 1, at);
            check.fault(place[0] + "counterxxxxxx" + place[1], 1, at);
            check.fault(place[0] + "a".repeat(3000) + place[1], 1, at);
        }
        check.fault("(counternnnnnn a 1)", 1, 1);
        check.fault("(node n(go anyyyyyyyyyyy n))", 1, 11);
        check.fault("(node n(go 1(arg 0 lessssssssssss 1)n))", 1, 19);
        check.fault("(node n(go anyyyyyyyyyy n))", 2, 11);
    }

    private static void mostNumbers() {
        check.sentence("a NUMBER .. from -2147483648 to 2147483647");
        long[] right = {0, 1, -1, 9, 10, 2147483646L, 2147483647L, -2147483647L, -2147483648L,
            1000000000L, -1000000000L, 999999999L};
        for (long k : right) {
            PolicyText x = check.with("(node a(go 1(arg 0 less " + k + ")a))");
            check.due("than of " + k, x.than(true, 0, 0, 0), k);
        }
        String[] wrong = {"2147483648", "-2147483649", "2147483650", "3000000000", "4294967295",
            "4294967296", "-4294967296", "9999999999", "9223372036854775807", "9223372036854775808",
            "-9223372036854775808", "18446744073709551615", "18446744073709551616",
            "18446744073709551617", "-18446744073709551617", "1" + zeros(400)};
        for (String k : wrong) {
            check.fault("(node a(go 1(arg 0 less " + k + ")a))", 1, 24);
            check.fault("(node a(go 1(arg 0 less " + zeros(20) + k.replace("-", "") + ")a))", 1, 24);
        }
    }

    private static void zerosAhead() {
        check.sentence("(of any length, 0s ahead or not)");
        for (int n : new int[] {1, 2, 9, 10, 11, 18, 19, 20, 64, 3900}) {
            thanIs("0".repeat(n), 0);
            thanIs("-" + zeros(n), 0);
            thanIs(zeros(n) + "7", 7);
            thanIs("-" + zeros(n) + "7", -7);
            thanIs(zeros(n) + "2147483647", Integer.MAX_VALUE);
            thanIs("-" + zeros(n) + "2147483648", Integer.MIN_VALUE);
            check.fault("(node a(go 1(arg 0 less " + zeros(n) + "2147483648)a))", 1, 24);
            check.fault("(node a(go 1(arg 0 less -" + zeros(n) + "2147483649)a))", 1, 24);
        }
        PolicyText x = check.with("(counter c 0015(up 0003(arg 002 less 1)))(node a(go 00 a)(go -000 a))");
        check.due("m", x.counter(0, 0), 15);
        check.due("call of RULE", x.clause(false, 0, 0, 0), 3);
        check.due("ARGUMENT", x.test(false, 0, 0, 0, 1), 2);
        check.due("call of WAY", x.clause(true, 0, 0, 0), 0);
        check.due("call of WAY with -", x.clause(true, 0, 1, 0), 0);
    }

    private static void thanIs(String number, int want) {
        PolicyText x = check.with("(node a(go 1(arg 0 less " + number + ")a))");
        check.due("than of " + number, x.than(true, 0, 0, 0), want);
    }

    private static void numbersThatAreNone() {
        check.sentence("or a NUMBER that is none .. of letters, digits and - one behind the other the first one");
        String[] none = {"-", "--", "--1", "1-", "1-1", "-1-", "-a", "a-", "a-b", "1a", "a1", "-1a",
            "1a1", "0-0", "-0-", "node1", "node-", "1node", "-node", "less1", "any-", "1any"};
        for (String word : none) {
            check.fault(word, 1, 0);
            check.fault("(" + word, 1, 1);
            for (String[] place : NAME_PLACES) {
                check.fault(place[0] + word + place[1], 1, place[0].length());
            }
            for (String[] place : CALL_PLACES) {
                check.fault(place[0] + word + place[1], 1, place[0].length());
            }
            check.fault("(node a(go 1(arg 0 less " + word + ")a))", 1, 24);
            check.fault("(node a(go 1(arg " + word + " less 1)a))", 1, 17);
            check.fault("(node a(go 1(arg 0 " + word + " 1)a))", 1, 19);
        }
        check.fault("(node a(go 1(arg 0 less +1)a))", 1, 24);
        check.fault("(node a(go 1(arg 0 less 1.5)a))", 1, 25);
        check.fault("(node a(go 1(arg 0 less 1,5)a))", 1, 25);
    }

    private static void numbersAtEachPlace() {
        check.sentence("2: .. a NUMBER that can not be one; 1: .. a NUMBER that is none");
        for (String[] place : CALL_PLACES) {
            check.fault(place[0] + "2147483647" + place[1], 2, place[0].length());
            check.fault(place[0] + "2147483648" + place[1], 1, place[0].length());
            check.fault(place[0] + "-2147483648" + place[1], 2, place[0].length());
            check.fault(place[0] + "-2147483649" + place[1], 1, place[0].length());
            check.fault(place[0] + "4294967296" + place[1], 1, place[0].length());
        }
        check.fault("(counter c 2147483647)", 2, 11);
        check.fault("(counter c 4294967297)", 1, 11);
        check.fault("(node a(go 1(arg 2147483647 less 1)a))", 2, 17);
        check.fault("(node a(go 1(arg 4294967296 less 1)a))", 1, 17);
    }

    private static final String[] TOKENS = {"(", "counter", "c", "2", "(", "up", "1", "(", "not", "(",
        "arg", "0", "less", "-5", ")", ")", ")", ")", "(", "node", "n", "(", "go", "any", "(", "count",
        "c", "same", "1", ")", "n", ")", ")"};

    private static final String PRINTED_TOKENS =
            "(counter c 2 (up 1 (not (arg 0 less -5))))\n(node n (go any (count c same 1) n))\n";

    private static void blanks() {
        check.sentence("Blanks (32) and ends of lines (10) stand between TOKENS as one likes");
        for (String blank : new String[] {" ", "\n", "  ", "\n\n", " \n", "\n ", " ".repeat(40)}) {
            for (int outside = 0; outside < 4; outside++) {
                String text = String.join(blank, TOKENS);
                text = ((outside & 1) == 1 ? blank : "") + text + ((outside & 2) == 2 ? blank : "");
                PolicyText x = check.with(text);
                x.print();
                check.due("PRINTED of " + text, Check.bytes(x, false), PRINTED_TOKENS);
            }
        }
        PolicyText x = check.with("(counter c 2(up 1(not(arg 0 less -5))))(node n(go any(count c same 1)n))");
        x.print();
        check.due("PRINTED", Check.bytes(x, false), PRINTED_TOKENS);
    }

    private static void everyByteBetweenTokens() {
        check.sentence("Other bytes are none");
        for (int b = 0; b < 256; b++) {
            String text = "(node" + (char) b + "a)";
            boolean letter = b >= 'a' && b <= 'z';
            if (b == 32 || b == 10) {
                check.right(text);
            } else if (letter || b == '(' || b == ')') {
                check.fault(text, 2, letter ? 1 : 5);
            } else {
                boolean inWord = b >= '0' && b <= '9' || b == '-';
                check.fault(text, 1, inWord ? 1 : 5);
            }
        }
    }

    private static void everyByteAtTheEnds() {
        check.sentence("1: a byte that belongs to no TOKEN");
        for (int b = 0; b < 256; b++) {
            boolean blank = b == 32 || b == 10;
            boolean alone = b >= 'a' && b <= 'z' || b >= '0' && b <= '9' || b == '(' || b == ')';
            check.fault((char) b + "", blank ? 4 : b == '(' ? 3 : alone ? 2 : 1, blank || b == '(' ? 1 : 0);
            check.fault((char) b + "(node a)", blank ? 0 : b == '(' ? 2 : alone ? 2 : 1,
                    blank ? -1 : b == '(' ? 1 : 0);
            check.fault("(node a)" + (char) b, blank ? 0 : b == '(' ? 3 : alone ? 2 : 1,
                    blank ? -1 : b == '(' ? 9 : 8);
        }
    }

    private static void blanksThatHaveToBe() {
        check.sentence("and have to between NAMES and NUMBERS");
        check.fault("(nodea)", 2, 1);
        check.fault("(counterc 1)", 2, 1);
        check.fault("(counter c1)", 1, 9);
        check.fault("(node a(go1 a))", 1, 8);
        check.fault("(node a(goany a))", 2, 8);
        check.fault("(node a(go 1a))", 1, 11);
        check.fault("(node a(go anya))", 2, 11);
        check.fault("(node a(go 1(arg0 less 1)a))", 1, 13);
        check.fault("(node a(go 1(arg 0less 1)a))", 1, 17);
        check.fault("(node a(go 1(arg 0 less1)a))", 1, 19);
        check.fault("(node a(go 1(arg 0 less-1)a))", 1, 19);
        check.fault("(node a(go 1(arg 0 less 1 2)a))", 2, 26);
        check.right("(node a(go 1(arg 0 less 12)a))");
    }

    private static void howManyCounters() {
        check.sentence("up to 6 COUNTERS; the word counter where there are 6");
        for (int many = 0; many <= 6; many++) {
            PolicyText x = check.with(Texts.counters(many) + "(node a)");
            check.due("COUNTERS", x.look(0), many);
            check.due("the last one", x.counter(many - 1, 0), many == 0 ? -1 : 1);
            check.due("one behind", x.counter(many, 0), -1);
        }
        String six = Texts.counters(6);
        check.fault(Texts.counters(7) + "(node a)", 2, six.length() + 1);
        check.fault(six + " ( \n counter", 2, six.length() + 5);
        check.fault(six + "(counter a 1)", 2, six.length() + 1);
        check.fault(six + "(counters", 2, six.length() + 1);
        check.fault(six + "(", 3, six.length() + 1);
        check.fault(six, 4, six.length());
    }

    private static void tops() {
        check.sentence("m 1 .. 15");
        for (int m = -3; m < 20; m++) {
            boolean right = m >= 1 && m <= 15;
            check.fault("(counter c " + m + ")(node a)", right ? 0 : 2, right ? -1 : 11);
            if (right) {
                check.due("m", check.with("(counter c " + m + ")(node a)").counter(0, 0), m);
            }
        }
        check.fault("(counter c any)(node a)", 2, 11);
        check.fault("(counter c)(node a)", 2, 10);
    }

    private static void howManyRules() {
        check.sentence("each with up to 4 RULES; one RULE too many (its ( )");
        for (String rule : new String[] {"(up 1)", "(zero any)", " ( up 3 ( arg 0 less 1 ) ) "}) {
            for (int many = 0; many <= 4; many++) {
                PolicyText x = check.with("(counter c 1" + rule.repeat(many) + ")(node a)");
                check.due("RULES", x.counter(0, 1), many);
                check.due("the last one", x.clause(false, 0, many - 1, 2) == -1, many == 0);
                check.due("one behind", x.clause(false, 0, many, 2), -1);
            }
            String four = "(counter c 1" + rule.repeat(4);
            int place = four.length() + rule.indexOf('(');
            check.fault(four + rule + ")(node a)", 2, place);
            check.fault((four + rule).substring(0, place + 1), 2, place);
            check.fault(four + "\n(go", 2, four.length() + 1);
        }
        PolicyText x = check.with("(counter a 1" + "(up 1)".repeat(4) + ")(counter b 1"
                + "(zero 2)".repeat(4) + ")(node a)");
        check.due("four of each", x.counter(0, 1) + x.counter(1, 1), 8);
    }

    private static void howManyNodes() {
        check.sentence("then 1 to 24 NODES; one NODE too many (its ( )");
        for (int many = 1; many <= 24; many++) {
            PolicyText x = check.with(Texts.nodes(many));
            check.due("NODES", x.look(1), many);
            check.due("the last one", x.node(many - 1, 1), 1);
            check.due("one behind", x.node(many, 1), -1);
        }
        String most = Texts.nodes(24);
        check.fault(Texts.nodes(25), 2, most.length());
        check.fault(most + " \n(node a)", 2, most.length() + 2);
        check.fault(most + "(", 2, most.length());
        check.fault(most + ")", 2, most.length());
        check.right(Texts.counters(6) + most);
        check.right(most + "\n");
        check.fault("", 4, 0);
    }

    private static void howManyWays() {
        check.sentence("each with up to 8 WAYS; one WAY too many (its ( )");
        String way = "(go any a)";
        for (int many = 0; many <= 8; many++) {
            PolicyText x = check.with("(node b)(node a" + way.repeat(many) + ")");
            check.due("WAYS", x.node(1, 0), many);
            check.due("the last one", x.clause(true, 1, many - 1, 2), many == 0 ? -1 : 1);
            check.due("one behind", x.clause(true, 1, many, 2), -1);
        }
        String eight = "(node a" + way.repeat(8);
        check.fault(eight + way + ")", 2, eight.length());
        check.fault(eight + "\n (go 1 a))", 2, eight.length() + 2);
        check.fault(eight + "(", 2, eight.length());
        check.right(eight + ")(node b" + way.repeat(8) + ")");
    }

    private static void callsOfClauses() {
        check.sentence("C is a number of a CALL OUTSIDE, or any");
        for (String[] place : CALL_PLACES) {
            boolean ways = place[0].startsWith("(node");
            for (int number = -2; number < 20; number++) {
                String text = place[0] + number + place[1];
                boolean right = number >= 0 && number <= 15;
                check.fault(text, right ? 0 : 2, right ? -1 : place[0].length());
                if (right) {
                    check.due("its call", check.with(text).clause(ways, 0, 0, 0), number);
                }
            }
            check.due("its call", check.with(place[0] + "any" + place[1]).clause(ways, 0, 0, 0), 16);
            for (String word : new String[] {"all", "an", "anyy", "n", "less", "(", ")"}) {
                check.fault(place[0] + word + place[1], 2, place[0].length());
            }
        }
    }

    private static void howManyTests() {
        check.sentence("There are up to 4 G in each; one G too many (its ( )");
        String[] guards = {"(arg 0 less 1)", "(not(arg 0 same 1))", " ( not (not ( arg 0 more 1 ) ) )"};
        for (String[] place : TEST_PLACES) {
            boolean ways = place[0].startsWith("(node");
            for (String guard : guards) {
                for (int many = 0; many <= 4; many++) {
                    PolicyText x = check.with(place[0] + guard.repeat(many) + place[1]);
                    check.due("TESTS", x.clause(ways, 0, 0, 1), many);
                    check.due("TESTS in all", x.look(6), many);
                    check.due("the last one", x.than(ways, 0, 0, many - 1), many == 0 ? 0 : 1);
                    check.due("one behind", x.test(ways, 0, 0, many, 0), -1);
                }
                String four = place[0] + guard.repeat(4);
                int at = four.length() + guard.indexOf('(');
                check.fault(four + guard + place[1], 2, at);
                check.fault((four + guard).substring(0, at + 1), 2, at);
            }
        }
        PolicyText x = check.with("(counter c 1" + "(up 1(arg 0 less 1)(count c same 2))".repeat(4) + ")(node a"
                + ("(go 3" + "(arg 2 less 1)".repeat(4) + "a)").repeat(8) + ")");
        check.due("TESTS in all", x.look(6), 4 * 2 + 8 * 4);
    }

    private static void testsWithinNot() {
        check.sentence("(not G)");
        for (String[] place : TEST_PLACES) {
            String ahead = place[0] + "(not";
            check.fault(ahead + ")" + place[1], 2, ahead.length());
            check.fault(ahead + " arg 0 less 1)" + place[1], 2, ahead.length() + 1);
            check.fault(ahead + "(arg 0 less 1)(arg 0 less 1))", 2, ahead.length() + 14);
            check.fault(ahead + "(arg 0 less 1) c)", 2, ahead.length() + 15);
            check.fault(ahead + "(arg 0 less 1)", 3, ahead.length() + 14);
            check.fault(ahead + "(up 1))", 2, ahead.length() + 1);
            for (int deep : new int[] {1, 2, 3, 40, 300, 700}) {
                check.right(place[0] + "(not".repeat(deep) + "(arg 0 less 1)" + ")".repeat(deep) + place[1]);
                String open = place[0] + "(not".repeat(deep);
                check.fault(open, 3, open.length());
                check.fault(open + "(arg 0 less 1)" + ")".repeat(deep) + ")))", 2,
                        open.length() + 14 + deep + (place[0].startsWith("(node") ? 0 : 2));
            }
        }
    }

    private static void argumentNumbers() {
        check.sentence("(arg i OP k), i 0 .. 2");
        for (String turn : new String[] {"", "(not(not"}) {
            for (int i = -2; i < 6; i++) {
                String ahead = "(node a(go any" + turn + "(arg ";
                boolean right = i >= 0 && i <= 2;
                String behind = " less 1)" + (turn.isEmpty() ? "" : "))") + "a))";
                check.fault(ahead + i + behind, right ? 0 : 2, right ? -1 : ahead.length());
                if (right) {
                    check.due("ARGUMENT", check.with(ahead + i + behind).test(true, 0, 0, 0, 1), i);
                }
            }
        }
        check.fault("(node a(go 1(arg a less 1)a))", 2, 17);
        check.fault("(node a(go 0(arg 3 less 1)a))", 2, 17);
    }

    private static void operators() {
        check.sentence("OP is less, same or more");
        String[] ops = {"less", "same", "more"};
        for (int op = 0; op < 3; op++) {
            PolicyText x = check.with("(counter c 1)(node a(go 1(arg 0 " + ops[op] + " 1)(count c "
                    + ops[op] + " 1)a))");
            check.due("OP", x.test(true, 0, 0, 0, 2), op);
            check.due("OP", x.test(true, 0, 0, 1, 2), op);
        }
        String[] none = {"les", "lesss", "sam", "samee", "mor", "mores", "equal", "any", "not", "1",
            "-1", "(", ")", "a"};
        for (String op : none) {
            check.fault("(node a(go 1(arg 0 " + op + " 1)a))", 2, 19);
            check.fault("(counter c 1)(node a(go 1(count c " + op + " 1)a))", 2, 34);
        }
    }

    private static void bounds() {
        check.sentence("k a NUMBER");
        for (String none : new String[] {"a", "any", "less", "(", ")"}) {
            check.fault("(node a(go 1(arg 0 less " + none + ")a))", 2, 24);
            check.fault("(counter c 1)(node a(go 1(count c more " + none + ")a))", 2, 39);
        }
        PolicyText x = check.with("(counter c 1)(node a(go 1(arg 0 more -2147483648)"
                + "(count c less 2147483647)(count c same -2147483648)(arg 0 same 2147483647)a))");
        check.due("k", x.than(true, 0, 0, 0), Integer.MIN_VALUE);
        check.due("k", x.than(true, 0, 0, 1), Integer.MAX_VALUE);
        check.due("k", x.than(true, 0, 0, 2), Integer.MIN_VALUE);
        check.due("k", x.than(true, 0, 0, 3), Integer.MAX_VALUE);
    }

    private static void differentNames() {
        check.sentence("those of COUNTERS are different, those of NODES too; a NAME that .. is a second time");
        check.fault("(counter a 1)(counter a 1)(node a)", 2, 22);
        check.fault("(counter a 1)(counter b 1)(counter b 2)(node a)", 2, 35);
        check.fault("(node a)(node a)", 2, 14);
        String most = Texts.nodes(23);
        check.fault(most + "(node a)", 2, most.length() + 6);
        check.fault(most + "(node w)", 2, most.length() + 6);
        check.right(most + "(node x)");
        check.right("(counter a 1)(counter b 1)(node a)(node b)");
        check.right("(node a)(node aa)(node aaa)(node ab)(node ba)");
        check.right("(node abcdefghijkl)(node abcdefghijkm)(node bbcdefghijkl)(node abcdefghijk)");
        check.fault("(node abcdefghijkl)(node abcdefghijkl)", 2, 25);
    }

    private static void usedAhead() {
        check.sentence("a NODE, or a COUNTER, can be used ahead of its place");
        PolicyText x = check.with("(counter a 1(up 1(count b less 1)(count a less 1)))"
                + "(counter b 1(zero 1(count a less 1)))"
                + "(node a(go 1 c)(go 1 b)(go 1 a))(node b)(node c(go 1 a))");
        check.due("COUNTER behind", x.test(false, 0, 0, 0, 1), 1);
        check.due("COUNTER itself", x.test(false, 0, 0, 1, 1), 0);
        check.due("COUNTER ahead", x.test(false, 1, 0, 0, 1), 0);
        check.due("NODE behind", x.clause(true, 0, 0, 2), 2);
        check.due("next NODE", x.clause(true, 0, 1, 2), 1);
        check.due("NODE itself", x.clause(true, 0, 2, 2), 0);
        check.due("NODE ahead", x.clause(true, 2, 0, 2), 0);
        String most = Texts.counters(6) + "(node z(go 1(count f less 1)w))" + Texts.nodes(23);
        check.due("last COUNTER", check.with(most).test(true, 0, 0, 0, 1), 5);
        check.due("last NODE", check.with(most).clause(true, 0, 0, 2), 23);
    }

    private static void wordsAreNoNames() {
        check.sentence("Words that stand behind ( so, any, less, same and more are no NAMES of these");
        for (String word : WORDS) {
            for (String[] place : NAME_PLACES) {
                check.fault(place[0] + word + place[1], 2, place[0].length());
            }
            String longer = word + "s";
            String shorter = word.substring(1) + "x";
            check.right("(counter " + longer + " 1)(node " + shorter + ")(node x" + word + "(go 1(count "
                    + longer + " less 1)" + shorter + "))");
        }
    }

    private static void argumentsCompared() {
        check.sentence("(arg i OP k) is true of a CALL if it has an ARGUMENT i, and that is less than k ..");
        long[] bounds = {0, 1, -1, 5, Integer.MAX_VALUE, Integer.MIN_VALUE};
        for (long k : bounds) {
            for (int i = 0; i < 3; i++) {
                PolicyText x = check.with("(node a(go any(arg " + i + " less " + k + ")a)(go any(arg " + i
                        + " same " + k + ")a)(go any(arg " + i + " more " + k + ")a))");
                for (long v : new long[] {k - 1, k, k + 1, 0, Integer.MIN_VALUE, Integer.MAX_VALUE}) {
                    if (v >= Integer.MIN_VALUE && v <= Integer.MAX_VALUE) {
                        compared(x, (int) v, i, Long.compare(v, k));
                    }
                }
            }
        }
    }

    private static void compared(PolicyText x, int v, int i, int order) {
        int other = v == 0 ? 1 : 0;
        for (int number = 0; number < 4; number++) {
            x.call(number, i == 0 ? v : other, i == 1 ? v : other, i == 2 ? v : other);
            for (int op = 0; op < 3; op++) {
                check.due("CALL " + number + ", ARGUMENT " + i + " is " + v + ", OP " + op,
                        x.holds(true, 0, op), i < number && order == op - 1);
            }
        }
    }

    private static void countersCompared() {
        check.sentence("(count X OP k) likewise of COUNTER X");
        for (long k : new long[] {-1, 0, 1, 7, 14, 15, 16, Integer.MIN_VALUE, Integer.MAX_VALUE}) {
            PolicyText x = check.with("(counter o 1)(counter c 15)(node a(go 0(count c less " + k
                    + ")a)(go 0(count c same " + k + ")a)(go 0(count c more " + k + ")a))");
            for (int v = 0; v <= 15; v++) {
                x.stand(1, v);
                for (int op = 0; op < 3; op++) {
                    check.due("COUNTER at " + v + ", OP " + op + ", k " + k, x.holds(true, 0, op),
                            Long.compare(v, k) == op - 1);
                }
            }
        }
    }

    private static void turnedTests() {
        check.sentence("(not G) if G is not");
        PolicyText x = check.with("(counter c 3)(node a(go any(not(arg 1 same 5))a)"
                + "(go any(not(not(arg 1 same 5)))a)(go any(not(count c more 2))a)"
                + "(go any(not(not(not(arg 2 less 0))))a))");
        boolean[][] want = {
            {true, false, true, true}, {true, false, true, true}, {false, true, true, true},
            {false, true, true, false}
        };
        for (int number = 0; number < 4; number++) {
            x.call(number, 5, 5, -1);
            for (int j = 0; j < 4; j++) {
                check.due("CALL " + number + ", WAY " + j, x.holds(true, 0, j), want[number][j]);
            }
        }
        x.call(3, 5, 4, 0);
        check.due("not same", x.holds(true, 0, 0), true);
        check.due("not not same", x.holds(true, 0, 1), false);
        check.due("not less", x.holds(true, 0, 3), true);
        x.stand(0, 3);
        check.due("not more", x.holds(true, 0, 2), false);
    }

    private static void firstFaultByPlace() {
        check.sentence("the first one by the place of the TOKEN at which it is seen");
        check.fault(") ?", 2, 0);
        check.fault("? )", 1, 0);
        check.fault("(node a) ) ?", 2, 9);
        check.fault("(node a) ? )", 1, 9);
        check.fault("(node a)(node a)?", 2, 14);
        check.fault("(node a?)(node a)", 1, 7);
        check.fault("(node 5 abcdefghijklm", 2, 6);
        check.fault("(node abcdefghijklm 5", 1, 6);
        check.fault("(node a(go 16 2147483648", 2, 11);
        check.fault("(node a(go 2147483648 16", 1, 11);
        check.fault("(node a(go 1 zz))(node", 3, 22);
        check.fault("(node a(go 1 zz))(node )", 2, 23);
        check.fault("(node a(go 0(arg 0 less 1)zz))?", 1, 30);
    }

    private static void faultsOfTokensThatAreNone() {
        check.sentence("1: .. (its first byte ..)");
        check.fault("(node  a$b)", 1, 8);
        check.fault("(node  $$)", 1, 7);
        check.fault("(node  a1$)", 1, 7);
        check.fault("(node  12$)", 2, 7);
        check.fault("(node  1234567890123$)", 1, 7);
    }

    /** The TOKENS that can come at each place; each of the others is a fault 2 there. */
    private static void tokensThatCanNotBeThere() {
        check.sentence("2: a TOKEN that can not be there: another one has to be");
        String[][] places = {
            {"", "("}, {"(", "counter node"}, {"(counter ", "q"}, {"(counter c ", "1"},
            {"(counter c 1 ", "( )"}, {"(counter c 1 (", "up zero"}, {"(counter c 1 (up ", "1 any"},
            {"(counter c 1 (zero ", "1 any"}, {"(counter c 1 (up 1 ", "( )"}, {"(counter c 1 (up 1 (", "arg count not"},
            {"(counter c 1 (up 1 (not ", "("}, {"(counter c 1 (up 1 (not (", "arg count not"},
            {"(counter c 1 (up 1 (arg ", "1"}, {"(counter c 1 (up 1 (arg 0 ", "less same more"},
            {"(counter c 1 (up 1 (arg 0 less ", "1 99 -1"}, {"(counter c 1 (up 1 (arg 0 less 1 ", ")"},
            {"(counter c 1 (up 1 (count ", "q"}, {"(counter c 1 (up 1 (count c ", "less same more"},
            {"(counter c 1 (up 1 (not (arg 0 less 1) ", ")"}, {"(counter c 1 (up 1 (arg 0 less 1) ", "( )"},
            {"(counter c 1 (up 1) ", "( )"}, {"(counter c 1) ", "("}, {"(node ", "q"}, {"(node a ", "( )"},
            {"(node a (", "go"}, {"(node a (go ", "1 any"}, {"(node a (go 1 ", "( q"}, {"(node a (go 1 a ", ")"},
            {"(node a (go 1 (arg 0 less 1) ", "( q"}, {"(node a (go 1 (not (arg 0 less 1)) ", "( q"},
            {"(node a (go 1 a) ", "( )"}, {"(node a) ", "("}, {"(node a) (", "node"},
        };
        String tokens = "( ) q 1 99 -1 " + String.join(" ", WORDS);
        for (String[] place : places) {
            String can = " " + place[1] + " ";
            for (String token : tokens.split(" ")) {
                String text = place[0] + token;
                if (can.contains(" " + token + " ")) {
                    check.due("a TOKEN that can be there: " + text, isRightSoFar(text), true);
                } else {
                    check.fault(text, 2, place[0].length());
                }
            }
        }
    }

    /** Whether nothing is wrong but that more TOKENS, or NAMES, have to come. */
    private static boolean isRightSoFar(String text) {
        int fault = Check.readOf(new PolicyText(), text);
        return fault == 0 || fault == 3 || fault == 4;
    }

    private static void wordsThatAreNone() {
        check.sentence("2: .. a word that is none");
        String[][] words = {
            {"(", "counte counters nod nodes x go"}, {"(counter c 1(", "u ups zer zeros go node"},
            {"(node a(", "g goo gos up zero counter"}, {"(node a(go 1(", "ar args coun counts no nots up go"},
            {"(node a(go ", "an anyx all"}, {"(node a(go 1(arg 0 ", "les lesss sam sames mor mores"},
        };
        for (String[] row : words) {
            for (String word : row[1].split(" ")) {
                check.fault(row[0] + word, 2, row[0].length());
            }
        }
    }

    private static void counterBehindNode() {
        check.sentence("2: .. the word counter .. behind a NODE");
        check.fault("(node a)(counter c 1)", 2, 9);
        check.fault("(node a) ( counter", 2, 11);
        check.fault("(counter c 1)(node a)(counter d 1)(node b)", 2, 22);
        String most = Texts.nodes(23);
        check.fault(most + "(counter c 1)", 2, most.length() + 1);
    }

    private static void endsOfTexts() {
        check.sentence("3: the text ends where a TOKEN has to be (its length)");
        StringBuilder text = new StringBuilder();
        for (int n = 0; n < TOKENS.length; n++) {
            text.append(TOKENS[n]);
            boolean whole = n == TOKENS.length - 1;
            boolean counterAlone = n == 17;
            for (String blank : new String[] {"", " ", "\n\n "}) {
                String part = text + blank;
                check.fault(part, whole ? 0 : counterAlone ? 4 : 3, whole ? -1 : part.length());
            }
            text.append(" ");
        }
    }

    private static void noNode() {
        check.sentence("Then 4: there is no NODE (the length)");
        check.fault("", 4, 0);
        check.fault(" ", 4, 1);
        check.fault("\n\n \n", 4, 4);
        check.fault("(counter a 1)", 4, 13);
        check.fault("(counter a 1) \n", 4, 15);
        check.fault("(counter a 1(up 1(count b less 1)))", 4, 35);
        check.fault("(counter a 1(up 0(arg 0 less 1)))", 4, 33);
        check.fault("(counter a 1))", 2, 13);
        check.fault("(counter a 1", 3, 12);
        String most = Texts.counters(6);
        check.fault(most, 4, most.length());
        check.right(most + "(node a)");
    }

    private static void namesThatThereAreNot() {
        check.sentence("5: an X or N that there is not (its NAME)");
        check.fault("(node a(go 1 b))", 5, 13);
        check.right("(node a(go 1 b))(node b)");
        check.fault("(counter b 1)(node a(go 1 b))", 5, 26);
        check.fault("(node b(go 1(count b less 1)b))", 5, 19);
        check.right("(counter b 1)(node b(go 1(count b less 1)b))");
        check.fault("(counter b 1(up 1(count a less 1)))(node a)", 5, 24);
        check.fault("(node ab(go 1 a))", 5, 14);
        check.fault("(node a(go 1 ab))", 5, 13);
        check.fault("(node a(go 1 aa))", 5, 13);
        check.fault("(node abcdefghijkl(go 1 abcdefghijkm))", 5, 24);
        check.fault("(node abcdefghijkl(go 1 bbcdefghijkl))", 5, 24);
        check.fault("(node abcdefghijkl(go 1 abcdefghijk))", 5, 24);
        String ahead = "(counter c 1)(node a(go 1(count c less 1)(not(not(count ";
        check.fault(ahead + "d less 1)))a))", 5, ahead.length());
    }

    private static void linksInTheOrderOfTheText() {
        check.sentence("Then, in the order of the text: 5 .. 6 ..");
        check.fault("(node a(go 1(count x less 1)(arg 1 less 1)y))", 5, 19);
        check.fault("(node a(go 1(arg 1 less 1)(count x less 1)y))", 6, 17);
        check.fault("(node a(go 1(arg 0 less 1)(count x less 1)y))", 5, 33);
        check.fault("(node a(go 1(arg 0 less 1)(arg 2 less 1)y))", 6, 31);
        check.fault("(node a(go 1(arg 0 less 1)y)(go 0(arg 0 less 1)a))", 5, 26);
        check.fault("(node a(go 0(arg 0 less 1)a)(go 1 y))", 6, 17);
        check.fault("(node a(go 1 y))(node b(go 1 z))", 5, 13);
        check.fault("(node a(go 1 a))(node b(go 1 z))", 5, 29);
        check.fault("(counter c 1(up 0)(up 0(arg 0 less 1)))(node a(go 1 z))", 6, 28);
        check.fault("(counter c 1(up 1(count d less 1)))(counter e 1(zero 0(arg 0 less 1)))(node a)", 5, 24);
        check.fault("(counter c 1)(counter e 1(zero 0(arg 0 less 1)))(node a(go 1 z))", 6, 37);
    }

    private static void turnedByOddNots() {
        check.sentence("it is TURNED if its (not are an odd number");
        for (int nots : new int[] {0, 1, 2, 3, 4, 5, 254, 255, 256, 257}) {
            PolicyText x = check.with("(node a(go 1" + "(not".repeat(nots) + "(arg 0 less 1)"
                    + ")".repeat(nots) + "a))");
            check.due(nots + " (not", x.test(true, 0, 0, 0, 3), nots % 2);
            check.due("one TEST", x.clause(true, 0, 0, 1), 1);
            x.call(1, 0, 0, 0);
            check.due("holds", x.holds(true, 0, 0), nots % 2 == 0);
            x.print();
            check.due("PRINTED", Check.bytes(x, false), nots % 2 == 1
                    ? "(node a (go 1 (not (arg 0 less 1)) a))\n" : "(node a (go 1 (arg 0 less 1) a))\n");
        }
    }

    private static void prints(String text, String want) {
        PolicyText x = check.with(text);
        check.due("print of " + text, x.print(), want.length());
        check.due("PRINTED of " + text, Check.bytes(x, false), want);
    }

    private static void printedInOneWay() {
        check.sentence("each COUNTER and NODE, in their order, and 10 behind it");
        prints("(counter b 1)(counter a 2)(node d)(node c)",
                "(counter b 1)\n(counter a 2)\n(node d)\n(node c)\n");
        check.sentence("a blank between TOKENS, but none behind ( and ahead of )");
        prints("(  node\n a (  go  1 (arg 0 less 1 ) a ) )", "(node a (go 1 (arg 0 less 1) a))\n");
        check.sentence("NUMBERS without 0s ahead, 0 without -");
        prints("(counter c 0001(up 000)(up -0)(zero 00015))(node a(go 3(arg 00 less -000)(arg 01 same 00010)"
                + "(arg 2 more -0010)(arg 2 same 0)a))",
                "(counter c 1 (up 0) (up 0) (zero 15))\n(node a (go 3 (arg 0 less 0) (arg 1 same 10)"
                + " (arg 2 more -10) (arg 2 same 0) a))\n");
        for (int k : new int[] {9, 10, 99, 100, 999999999, 1000000000, 2147483647, -1, -9, -10, -2147483648}) {
            prints("(node a(go 1(arg 0 less " + k + ")a))", "(node a (go 1 (arg 0 less " + k + ") a))\n");
        }
        check.sentence("a TEST that is TURNED within one (not )");
        prints("(counter c 1(up any(not(count c more 0))))(node a(go 2(not(not(not(arg 1 same 1))))"
                + "(not(not(arg 0 same 1)))a))",
                "(counter c 1 (up any (not (count c more 0))))\n(node a (go 2 (not (arg 1 same 1))"
                + " (arg 0 same 1) a))\n");
    }
}
