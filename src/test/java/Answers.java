import java.util.function.Supplier;
import java.util.function.ToLongFunction;

/** All that can be asked of an object without changing it, a line an answer. */
final class Answers {
    private final Fresh objects;
    private final StringBuilder all = new StringBuilder();

    private Answers(Supplier<PolicyText> maker) {
        objects = new Fresh(maker);
    }

    static String of(Supplier<PolicyText> maker) {
        Answers answers = new Answers(maker);
        int counters = answers.ask("look(0)", x -> x.look(0));
        int nodes = answers.ask("look(1)", x -> x.look(1));
        int given = answers.ask("look(2)", x -> x.look(2));
        int printed = answers.ask("look(3)", x -> x.look(3));
        answers.ask("look(4)", x -> x.look(4));
        answers.ask("look(5)", x -> x.look(5));
        answers.ask("look(6)", x -> x.look(6));
        answers.askBytes(given, true);
        answers.askBytes(printed, false);
        answers.askHeads(counters, false);
        answers.askHeads(nodes, true);
        return answers.all.toString();
    }

    /** Also what comes of each call that goes on from there. */
    static String andWhatComes(Supplier<PolicyText> maker) {
        return of(maker)
                + "behind make\n" + of(() -> behind(maker, x -> x.make(0)))
                + "behind print\n" + of(() -> behind(maker, x -> x.print()))
                + "behind turnOver\n" + of(() -> behind(maker, x -> x.turnOver() ? 1 : 0))
                + "behind read\n" + of(() -> behind(maker, x -> x.read()))
                + "behind give\n" + of(() -> behind(maker, x -> x.give('?', 1) ? 1 : 0));
    }

    /** The same answers, but for what is said of the latest read. */
    static String withFault(String answers, int fault, int place) {
        return answers.replaceAll("look\\(4\\)=.*", "look(4)=" + fault)
                .replaceAll("look\\(5\\)=.*", "look(5)=" + place);
    }

    static PolicyText behind(Supplier<PolicyText> maker, ToLongFunction<PolicyText> call) {
        PolicyText x = maker.get();
        call.applyAsLong(x);
        return x;
    }

    private int ask(String name, ToLongFunction<PolicyText> question) {
        int answer = (int) question.applyAsLong(objects.get());
        all.append(name).append('=').append(answer).append('\n');
        return answer;
    }

    private void askBytes(int length, boolean text) {
        for (int n = -1; n <= length; n++) {
            int k = n;
            ask("byteAt(" + k + ", " + text + ")", x -> x.byteAt(k, text));
        }
    }

    private void askHeads(int heads, boolean ways) {
        for (int n = -1; n <= heads; n++) {
            int k = n;
            for (int w = -1; w < 5; w++) {
                int what = w;
                ask("head(" + ways + ", " + k + ", " + what + ")",
                        x -> ways ? x.node(k, what) : x.counter(k, what));
            }
            int clauses = ask("clauses", x -> ways ? x.node(k, 0) : x.counter(k, 1));
            for (int j = -1; j <= clauses; j++) {
                askClause(ways, k, j);
            }
        }
    }

    private void askClause(boolean ways, int k, int j) {
        String name = "(" + ways + ", " + k + ", " + j + ")";
        for (int w = -1; w < 4; w++) {
            int what = w;
            ask("clause" + name + what, x -> x.clause(ways, k, j, what));
        }
        ask("holds" + name, x -> x.holds(ways, k, j) ? 1 : 0);
        int tests = ask("tests", x -> x.clause(ways, k, j, 1));
        for (int n = -1; n <= tests; n++) {
            int i = n;
            for (int w = -1; w < 5; w++) {
                int what = w;
                ask("test" + name + i + " " + what, x -> x.test(ways, k, j, i, what));
            }
            ask("than" + name + i, x -> x.than(ways, k, j, i));
        }
    }
}
