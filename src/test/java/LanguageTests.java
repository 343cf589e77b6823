import java.io.IOException;
import java.nio.file.Files;
import java.nio.file.Path;
import java.util.Arrays;
import java.util.HashSet;
import java.util.Map;
import java.util.Set;
import java.util.TreeMap;
import java.util.TreeSet;
import java.util.regex.Matcher;
import java.util.regex.Pattern;

/** Rules of LANGUAGE.md that the text of the class shows. */
public final class LanguageTests {
    private static final Check check = new Check();

    private static final Set<String> FACE = Set.of("give", "cut", "poke", "read", "print", "turnOver",
            "stand", "counter", "node", "clause", "test", "than", "call", "holds", "make", "byteAt", "look");

    private static final String[] BARRED = {"throw", "throws", "try", "catch", "finally", "synchronized",
        "assert", "import", "package", "hashCode", "toString", "Object", "Thread", "Random", "native",
        "volatile", "equals", "protected", "double", "float"};

    private static final Set<String> LIBRARY = Set.of("length", "charAt", "arraycopy", "max", "min", "bitCount");

    private static final Set<String> NO_CALLS = Set.of("if", "for", "while", "switch", "return");

    private static final Pattern DECLARED = Pattern.compile(
            "(?m)^ +((?:public |private |static )*)(?:boolean|int|long|void) (\\w+)\\([^)]*\\) \\{$");
    private static final Pattern CALLED = Pattern.compile("(\\w+)\\(");

    /** Bodies by name: methods of the same name in two classes are taken as one that calls all. */
    private static final Map<String, String> bodies = new TreeMap<>();

    public static void main(String[] args) throws IOException {
        String code = Files.readString(Path.of("src/main/java/PolicyText.java"))
                .replaceAll("(?s)/\\*.*?\\*/", " ").replaceAll("//[^\n]*", " ")
                .replaceAll("\"[^\"\n]*\"", "\"\"");
        words(code);
        methods(code);
        calls();
        check.end();
    }

    private static void words(String code) {
        check.sentence("rules 3, 4, 6, 13: no word of what is left away");
        Set<String> used = new TreeSet<>(Arrays.asList(code.split("[^A-Za-z]+")));
        for (String word : BARRED) {
            check.due("the code has " + word, used.contains(word), false);
        }
        check.due("the code has -> or ::", code.contains("->") || code.contains("::"), false);
    }

    private static void methods(String code) {
        Matcher declared = DECLARED.matcher(code);
        while (declared.find()) {
            String name = declared.group(2);
            check.sentence("rule 1: No private method bears the name of a public one");
            check.due(name + " is public", declared.group(1).contains("public"), FACE.contains(name));
            String body = bodyFrom(code, declared.end() - 1);
            check.sentence("rule 11: Methods stay short (some sixty lines)");
            check.due(name + " is short", body.split("\n").length <= 60, true);
            bodies.merge(name, body, String::concat);
        }
        check.due("all methods of the face are found", bodies.keySet().containsAll(FACE), true);
    }

    private static String bodyFrom(String code, int brace) {
        int open = 0;
        for (int i = brace; i < code.length(); i++) {
            open += code.charAt(i) == '{' ? 1 : code.charAt(i) == '}' ? -1 : 0;
            if (open == 0) {
                return code.substring(brace, i + 1);
            }
        }
        return code.substring(brace);
    }

    private static void calls() {
        for (String name : FACE) {
            check.sentence("rule 11: calls that are no recursion go at most eight deep");
            check.due(name + " goes at most eight deep", depthOf(name, new HashSet<>()) <= 8, true);
        }
        check.sentence("rule 4: only what stands here");
        for (Map.Entry<String, String> one : bodies.entrySet()) {
            for (String called : calledIn(one.getValue())) {
                boolean known = bodies.containsKey(called) || LIBRARY.contains(called) || called.equals("Printer");
                check.due(one.getKey() + " calls " + called + ", which is known", known, true);
            }
        }
    }

    /** How many calls stand open at once, this one too; a method that comes to itself is told. */
    private static int depthOf(String name, Set<String> open) {
        if (!bodies.containsKey(name)) {
            return 0;
        }
        if (!open.add(name)) {
            check.due(name + " calls itself", true, false);
            return 0;
        }
        int deepest = 0;
        for (String called : calledIn(bodies.get(name))) {
            deepest = Math.max(deepest, depthOf(called, open));
        }
        open.remove(name);
        return deepest + 1;
    }

    private static Set<String> calledIn(String body) {
        Set<String> names = new TreeSet<>();
        Matcher called = CALLED.matcher(body);
        while (called.find()) {
            if (!NO_CALLS.contains(called.group(1))) {
                names.add(called.group(1));
            }
        }
        return names;
    }
}
