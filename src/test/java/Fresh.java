import java.util.function.Supplier;

/** Objects made alike, a new one after some questions, since one is promised for 512 calls only. */
final class Fresh {
    private static final int QUESTIONS_EACH = 30;

    private final Supplier<PolicyText> maker;
    private PolicyText x;
    private int left = 0;

    Fresh(Supplier<PolicyText> maker) {
        this.maker = maker;
    }

    /** The object for one question that changes nothing. */
    PolicyText get() {
        if (left == 0) {
            x = maker.get();
            left = QUESTIONS_EACH;
        }
        left--;
        return x;
    }

    String bytes(boolean text) {
        StringBuilder all = new StringBuilder();
        int length = get().look(text ? 2 : 3);
        for (int k = 0; k < length; k++) {
            all.append((char) get().byteAt(k, text));
        }
        return all.toString();
    }
}
