/** What the tests share: counting wrong answers, and giving whole texts. */
final class Check {
    private int wrong = 0;
    private int asked = 0;
    private String sentence = "";

    /** The document's words that the answers from here on are held to. */
    void sentence(String words) {
        sentence = "[" + words + "] ";
    }

    void due(String what, long got, long want) {
        asked++;
        if (got != want) {
            wrong++;
            System.out.println(sentence + clipped(what) + " answered " + got + ", due is " + want);
        }
    }

    void due(String what, boolean got, boolean want) {
        due(what, got ? 1L : 0L, want ? 1L : 0L);
    }

    void due(String what, String got, String want) {
        asked++;
        if (!got.equals(want)) {
            wrong++;
            System.out.println(sentence + clipped(what) + " answered\n" + got + "\ndue is\n" + want);
        }
    }

    private static String clipped(String what) {
        return what.length() < 300 ? what : what.substring(0, 200) + " .. " + what.substring(what.length() - 80);
    }

    int wrongOnes() {
        return wrong;
    }

    void end() {
        System.out.println(asked + " answers, " + wrong + " wrong");
        if (wrong > 0) {
            System.exit(1);
        }
    }

    /** A new object whose POLICY is that text. */
    PolicyText with(String text) {
        PolicyText x = new PolicyText();
        due("read of " + text, readOf(x, text), 0);
        return x;
    }

    void right(String text) {
        fault(text, 0, -1);
    }

    /** A new object finds that fault at that place. */
    void fault(String text, int fault, int place) {
        PolicyText x = new PolicyText();
        due("fault of " + text, readOf(x, text), fault);
        due("look(4) of " + text, x.look(4), fault);
        due("place of " + text, x.look(5), place);
    }

    /** Adds a text, eight bytes a call; answers whether all of it found room. */
    static boolean give(PolicyText x, String text) {
        boolean all = true;
        for (int from = 0; from < text.length(); from += 8) {
            int to = Math.min(from + 8, text.length());
            long v = 0;
            for (int i = from; i < to; i++) {
                v = v << 8 | text.charAt(i) & 255;
            }
            all &= x.give(v, to - from);
        }
        return all;
    }

    static int readOf(PolicyText x, String text) {
        x.cut(0);
        give(x, text);
        return x.read();
    }

    static String bytes(PolicyText x, boolean text) {
        StringBuilder all = new StringBuilder();
        int length = x.look(text ? 2 : 3);
        for (int k = 0; k < length; k++) {
            all.append((char) x.byteAt(k, text));
        }
        return all.toString();
    }
}
