import java.lang.reflect.Array;
import java.lang.reflect.Constructor;
import java.lang.reflect.Field;
import java.lang.reflect.Method;
import java.lang.reflect.Modifier;
import java.util.Arrays;
import java.util.Collections;
import java.util.IdentityHashMap;
import java.util.Set;
import java.util.TreeSet;

/** The public face, the classes inside, and how much of the room an object takes. */
public final class FaceTests {
    private static final Check check = new Check();

    private static final String[] FACE = {
        "boolean give(long, int)", "boolean cut(int)", "boolean poke(int, int)", "int read()",
        "int print()", "boolean turnOver()", "boolean stand(int, int)", "int counter(int, int)",
        "int node(int, int)", "int clause(boolean, int, int, int)",
        "int test(boolean, int, int, int, int)", "int than(boolean, int, int, int)",
        "boolean call(int, int, int, int)", "boolean holds(boolean, int, int)", "int make(int)",
        "int byteAt(int, boolean)", "int look(int)"
    };

    /** A room has 7.3 million fields and elements; even 512 new objects have to fit. */
    private static final int ROOM_FOR_ONE = 7_300_000 / 512;

    public static void main(String[] args) throws IllegalAccessException {
        face();
        classesInside();
        room();
        check.end();
    }

    private static void face() {
        check.due("modifiers", PolicyText.class.getModifiers(), Modifier.PUBLIC | Modifier.FINAL);
        Set<String> open = new TreeSet<>();
        for (Method method : PolicyText.class.getDeclaredMethods()) {
            if (!Modifier.isPrivate(method.getModifiers())) {
                check.due(method + " is public", method.getModifiers(), Modifier.PUBLIC);
                String parameters = Arrays.toString(method.getParameterTypes());
                open.add(method.getReturnType() + " " + method.getName() + "("
                        + parameters.substring(1, parameters.length() - 1) + ")");
            }
        }
        check.due("methods", String.join("\n", open), String.join("\n", new TreeSet<>(Arrays.asList(FACE))));
        Constructor<?>[] constructors = PolicyText.class.getDeclaredConstructors();
        check.due("constructors", constructors.length, 1);
        check.due("constructor is public", constructors[0].getModifiers(), Modifier.PUBLIC);
        check.due("constructor's parameters", constructors[0].getParameterCount(), 0);
        for (Field field : PolicyText.class.getDeclaredFields()) {
            boolean isOpen = !Modifier.isPrivate(field.getModifiers());
            check.due(field + " is open", isOpen, field.getName().equals("NONE"));
        }
    }

    private static void classesInside() {
        Class<?>[] inside = PolicyText.class.getDeclaredClasses();
        check.due("at most twelve classes", inside.length < 12, true);
        for (Class<?> one : inside) {
            check.due(one + " is static", Modifier.isStatic(one.getModifiers()), true);
            check.due(one + " is public or protected",
                    (one.getModifiers() & (Modifier.PUBLIC | Modifier.PROTECTED)) != 0, false);
            int fields = 0;
            for (Field field : one.getDeclaredFields()) {
                if (Modifier.isStatic(field.getModifiers())) {
                    check.due(field + " is final", Modifier.isFinal(field.getModifiers()), true);
                } else {
                    fields++;
                }
            }
            check.due(one + " has at most twenty fields", fields <= 20, true);
            for (Method method : one.getDeclaredMethods()) {
                check.due(method + " has at most seven parameters", method.getParameterCount() <= 7, true);
            }
        }
    }

    private static void room() throws IllegalAccessException {
        PolicyText x = new PolicyText();
        long made = elementsOf(x, Collections.newSetFromMap(new IdentityHashMap<>()));
        check.due("a new object takes " + made, made < ROOM_FOR_ONE, true);
        Check.readOf(x, "(counter c 3(up any))(node a(go 1(count c less 1)a))");
        x.print();
        x.turnOver();
        x.make(0);
        long used = elementsOf(x, Collections.newSetFromMap(new IdentityHashMap<>()));
        check.due("a used object takes", used, made);
    }

    private static long elementsOf(Object of, Set<Object> seen) throws IllegalAccessException {
        if (of == null || of instanceof String || !seen.add(of)) {
            return 0;
        }
        if (of.getClass().isArray()) {
            return Array.getLength(of);
        }
        long all = 0;
        for (Field field : of.getClass().getDeclaredFields()) {
            if (!Modifier.isStatic(field.getModifiers())) {
                all++;
                if (!field.getType().isPrimitive()) {
                    field.setAccessible(true);
                    all += elementsOf(field.get(of), seen);
                }
            }
        }
        return all;
    }
}
