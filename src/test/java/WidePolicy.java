import java.lang.reflect.Field;
import java.lang.reflect.Method;

/**
 * Makes a POLICY that is PRINTED as more bytes than any TEXT of 4096 bytes is, behind the face of
 * the class, since print() promises an answer for it all the same.
 */
final class WidePolicy {
    private WidePolicy() {
    }

    /** Adds NODES that are PRINTED as so many bytes: WAYS of 109, then a last NODE as is needed. */
    static void widen(PolicyText x, int bytes) {
        Object policy = policyOf(x);
        int rest = bytes;
        for (long name = 2; rest > 89; name++) {
            invoke(policy, "addHead", true, name);
            rest -= 9;
            for (int j = 0; j < 8 && rest >= 109 + 9; j++) {
                Object row = invoke(policy, "addClause", true, 1, 0);
                for (int i = 0; i < 4; i++) {
                    invoke(policy, "addTest", row, 0, Integer.MIN_VALUE);
                }
                rest -= 109;
            }
        }
        long z = 26;
        for (int letters = (rest - 9) % 9; letters > 0; letters--) {
            z = z << 5 | 26;
        }
        invoke(policy, "addHead", true, z);
        for (int ways = (rest - 9) / 9; ways > 0; ways--) {
            invoke(policy, "addClause", true, 1, 0);
        }
    }

    private static Object policyOf(PolicyText x) {
        try {
            Field field = PolicyText.class.getDeclaredField("policy");
            field.setAccessible(true);
            return field.get(x);
        } catch (ReflectiveOperationException e) {
            throw new IllegalStateException(e);
        }
    }

    private static Object invoke(Object of, String name, Object... arguments) {
        try {
            for (Method method : of.getClass().getDeclaredMethods()) {
                if (method.getName().equals(name)) {
                    method.setAccessible(true);
                    return method.invoke(of, arguments);
                }
            }
        } catch (ReflectiveOperationException e) {
            throw new IllegalStateException(e);
        }
        throw new IllegalStateException("no method " + name);
    }
}
