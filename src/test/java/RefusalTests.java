import java.util.function.Supplier;
import java.util.function.ToLongFunction;

/**
 * "What answers false, NONE or a fault changes nothing but what is said.": each refused call, in
 * states that differ from a new object in all that can be seen, with all answers before and behind.
 */
public final class RefusalTests {
    private static final Check check = new Check();

    /** The WAYS tell the number and each ARGUMENT of the CALL. */
    private static final String POLICY =
            "(counter low 3(up 7(arg 0 less 5)(count high more 9))(zero any(not(count low same 2))))"
            + "(counter high 15(up any))"
            + "(node start(go 7(arg 0 same -4)end)(go any(arg 1 same 50)mid)(go any(arg 2 same 6)end))"
            + "(node mid(go 0 start)(go any(not(not(not(count low less 2))))mid))"
            + "(node end)";

    private static final int[] FAR = {-1, Integer.MIN_VALUE, Integer.MAX_VALUE, 1 << 16};

    private static String heading;
    private static Supplier<PolicyText> state;
    private static String before;

    public static void main(String[] args) {
        inState("new", PolicyText::new);
        refusedEverywhere();
        inState("used", RefusalTests::used);
        refusedEverywhere();
        refusedOfUsed();
        inState("used, behind a fault", RefusalTests::faulty);
        refusedEverywhere();
        refusedOfUsed();
        inState("full", RefusalTests::full);
        refusedOfFull();
        inState("too wide to turn over", RefusalTests::wide);
        refused("turnOver()", x -> bit(x.turnOver()), 0);
        inState("too wide to print", RefusalTests::tooWide);
        refused("print()", x -> x.print(), -1);
        faultsOfRead();
        questionsOfUsed();
        check.end();
    }

    /** TEXT, PRINTED, POLICY, COUNTERS and CALL are all something else than at first. */
    private static PolicyText used() {
        PolicyText x = new PolicyText();
        Check.readOf(x, "(counter p 2)(node q)");
        x.print();
        Check.readOf(x, POLICY);
        x.cut(0);
        Check.give(x, "(node r(go 1 r))\n");
        x.stand(0, 2);
        x.stand(1, 11);
        x.call(7, -4, 50, 6);
        return x;
    }

    private static PolicyText faulty() {
        PolicyText x = used();
        x.poke(6, 'R');
        x.read();
        x.poke(6, 'r');
        return x;
    }

    private static PolicyText full() {
        PolicyText x = new PolicyText();
        Check.readOf(x, Texts.printedAs(4096));
        x.print();
        x.turnOver();
        x.call(1, -1, 0, 0);
        return x;
    }

    private static PolicyText wide() {
        PolicyText x = new PolicyText();
        Check.readOf(x, Texts.printedAs(4097));
        x.print();
        x.cut(20);
        return x;
    }

    private static PolicyText tooWide() {
        PolicyText x = new PolicyText();
        x.print();
        x.give('?', 1);
        WidePolicy.widen(x, 8193 - 9);
        x.call(1, 0, 0, 0);
        return x;
    }

    private static void inState(String name, Supplier<PolicyText> maker) {
        heading = name + ": ";
        state = maker;
        before = Answers.andWhatComes(maker);
    }

    private static long bit(boolean answer) {
        return answer ? 1 : 0;
    }

    private static void refused(String name, ToLongFunction<PolicyText> call, long due) {
        check.due(heading + name, call.applyAsLong(state.get()), due);
        String behind = Answers.andWhatComes(() -> Answers.behind(state, call));
        check.due(heading + name + " changes nothing", firstOther(before, behind), "");
    }

    /** The first line that is not the same; empty if there is none. */
    private static String firstOther(String before, String behind) {
        String[] one = before.split("\n");
        String[] other = behind.split("\n");
        for (int n = 0; n < one.length && n < other.length; n++) {
            if (!one[n].equals(other[n])) {
                return one[n] + " before, " + other[n] + " behind";
            }
        }
        return one.length == other.length ? "" : "other lines";
    }

    private static void refusedEverywhere() {
        check.sentence("What answers false, NONE or a fault changes nothing but what is said");
        for (int far : FAR) {
            refused("give(v, " + far + ")", x -> bit(x.give(0x4142434445464748L, far)), 0);
            refused("cut(" + far + ")", x -> bit(x.cut(far)), 0);
            refused("poke(" + far + ", b)", x -> bit(x.poke(far, '#')), 0);
            refused("stand(" + far + ", 0)", x -> bit(x.stand(far, 0)), 0);
            refused("stand(0, " + far + ")", x -> bit(x.stand(0, far)), 0);
            refused("counter(" + far + ", 0)", x -> x.counter(far, 0), -1);
            refused("counter(0, " + far + ")", x -> x.counter(0, far), -1);
            refused("node(" + far + ", 0)", x -> x.node(far, 0), -1);
            refused("node(0, " + far + ")", x -> x.node(0, far), -1);
            refused("clause(true, " + far + ", 0, 0)", x -> x.clause(true, far, 0, 0), -1);
            refused("clause(false, 0, " + far + ", 0)", x -> x.clause(false, 0, far, 0), -1);
            refused("test(true, 0, 0, " + far + ", 0)", x -> x.test(true, 0, 0, far, 0), -1);
            refused("than(false, 0, 0, " + far + ")", x -> x.than(false, 0, 0, far), 0);
            refused("call(" + far + ", ..)", x -> bit(x.call(far, 1, 2, 3)), 0);
            refused("holds(true, " + far + ", 0)", x -> bit(x.holds(true, far, 0)), 0);
            refused("holds(false, 0, " + far + ")", x -> bit(x.holds(false, 0, far)), 0);
            refused("make(" + far + ")", x -> x.make(far), -1);
            refused("byteAt(" + far + ", true)", x -> x.byteAt(far, true), -1);
            refused("byteAt(" + far + ", false)", x -> x.byteAt(far, false), -1);
            refused("look(" + far + ")", x -> x.look(far), -1);
        }
        refused("give(v, 0)", x -> bit(x.give(0x4142434445464748L, 0)), 0);
        refused("give(v, 9)", x -> bit(x.give(0x4142434445464748L, 9)), 0);
        refused("cut(one more)", x -> bit(x.cut(x.look(2) + 1)), 0);
        refused("poke(behind, b)", x -> bit(x.poke(x.look(2), '#')), 0);
        refused("call(16, ..)", x -> bit(x.call(16, 1, 2, 3)), 0);
        refused("make(one more)", x -> x.make(x.look(1)), -1);
        refused("stand(one more, 0)", x -> bit(x.stand(x.look(0), 0)), 0);
        refused("look(7)", x -> x.look(7), -1);
        refused("byteAt(behind, true)", x -> x.byteAt(x.look(2), true), -1);
        refused("byteAt(behind, false)", x -> x.byteAt(x.look(3), false), -1);
    }

    private static void refusedOfUsed() {
        refused("stand(0, 4)", x -> bit(x.stand(0, 4)), 0);
        refused("stand(1, 16)", x -> bit(x.stand(1, 16)), 0);
        refused("stand(2, 0)", x -> bit(x.stand(2, 0)), 0);
        refused("counter(2, 0)", x -> x.counter(2, 0), -1);
        refused("counter(0, 4)", x -> x.counter(0, 4), -1);
        refused("node(3, 0)", x -> x.node(3, 0), -1);
        refused("node(0, 2)", x -> x.node(0, 2), -1);
        refused("clause(false, 0, 2, 0)", x -> x.clause(false, 0, 2, 0), -1);
        refused("clause(true, 0, 3, 0)", x -> x.clause(true, 0, 3, 0), -1);
        refused("clause(true, 0, 0, 3)", x -> x.clause(true, 0, 0, 3), -1);
        refused("test(true, 0, 0, 1, 0)", x -> x.test(true, 0, 0, 1, 0), -1);
        refused("test(true, 0, 0, 0, 4)", x -> x.test(true, 0, 0, 0, 4), -1);
        refused("than(true, 0, 0, 1)", x -> x.than(true, 0, 0, 1), 0);
        refused("holds(true, 0, 3)", x -> bit(x.holds(true, 0, 3)), 0);
        refused("holds of a WAY that does not hold", x -> bit(x.holds(true, 1, 0)), 0);
        refused("holds of a RULE that does not hold", x -> bit(x.holds(false, 0, 1)), 0);
        refused("make(3)", x -> x.make(3), -1);
    }

    private static void refusedOfFull() {
        for (int n = 1; n <= 8; n++) {
            int bytes = n;
            refused("give(v, " + n + ")", x -> bit(x.give(0x4142434445464748L, bytes)), 0);
        }
        refused("cut(4097)", x -> bit(x.cut(4097)), 0);
        refused("poke(4096, b)", x -> bit(x.poke(4096, '#')), 0);
        refused("byteAt(4096, true)", x -> x.byteAt(4096, true), -1);
    }

    /** Each fault is said, and nothing else is other than before. */
    private static void faultsOfRead() {
        check.sentence("5: else the fault; what answers .. a fault changes nothing but what is said");
        String[] texts = {
            "(counter z 9(up 1))(node y(go 1(arg 0 less 1)y))?", "(counter z 9(up 1))(node y))",
            "(counter z 9(up 1))(node y", "(counter z 9(up 1(arg 0 more 2)))",
            "(counter z 9(up 1(count w less 3)))(node y(go 1 y))", "(counter z 9)(node y(go 1 w))",
            "(counter z 9(up 1(arg 1 less 3)))(node y(go 1 y))", ""
        };
        int[] faults = {1, 2, 3, 4, 5, 5, 6, 4};
        int[] places = {48, 27, 26, 33, 24, 26, 22, 0};
        for (int n = 0; n < texts.length; n++) {
            String text = texts[n];
            Supplier<PolicyText> ahead = () -> {
                PolicyText x = used();
                x.cut(0);
                Check.give(x, text);
                return x;
            };
            String want = Answers.withFault(Answers.of(ahead), faults[n], places[n]);
            check.due("read of " + text, ahead.get().read(), faults[n]);
            String got = Answers.of(() -> Answers.behind(ahead, x -> x.read()));
            check.due("read of " + text + " changes nothing else", firstOther(want, got), "");
            String made = Answers.of(() -> Answers.behind(ahead, x -> x.make(0)));
            String readAndMade = Answers.of(() -> Answers.behind(ahead, x -> x.read() + x.make(0)));
            check.due("make behind read of " + text,
                    firstOther(Answers.withFault(made, faults[n], places[n]), readAndMade), "");
        }
    }

    /** Questions that are answered change nothing either, nor do calls that change what is so already. */
    private static void questionsOfUsed() {
        check.sentence("Nothing is promised beyond the answers and state changes described");
        inState("used", RefusalTests::used);
        refused("holds", x -> bit(x.holds(true, 0, 0)), 1);
        refused("counter", x -> x.counter(1, 2), 11);
        refused("node", x -> x.node(0, 0), 3);
        refused("clause", x -> x.clause(true, 0, 0, 2), 2);
        refused("test", x -> x.test(true, 1, 1, 0, 3), 1);
        refused("than", x -> x.than(true, 0, 1, 0), 50);
        refused("byteAt", x -> x.byteAt(0, true), '(');
        refused("look", x -> x.look(6), 7);
        refused("cut at the length", x -> bit(x.cut(x.look(2))), 1);
        refused("poke of the same", x -> bit(x.poke(0, '(' + 256)), 1);
        refused("stand at the same", x -> bit(x.stand(0, 2)), 1);
        refused("the same call", x -> bit(x.call(7, -4, 50, 6)), 1);
    }
}
