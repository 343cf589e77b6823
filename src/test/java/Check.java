/** What the tests share: counting wrong answers, and giving whole texts. */
final class Check {
    private int wrong = 0;
    private int asked = 0;

    void due(String what, long got, long want) {
        asked++;
        if (got != want) {
            wrong++;
            System.out.println(what + " answered " + got + ", due is " + want);
        }
    }

    void due(String what, boolean got, boolean want) {
        due(what, got ? 1L : 0L, want ? 1L : 0L);
    }

    void due(String what, String got, String want) {
        asked++;
        if (!got.equals(want)) {
            wrong++;
            System.out.println(what + " answered\n" + got + "\ndue is\n" + want);
        }
    }

    int wrongOnes() {
        return wrong;
    }

    void end() {
        System.out.println(asked + " answers, " + wrong + " wrong");
        if (wrong > 0) {
            System.exit(1);
        }
    }

    /** Adds a text, eight bytes a call; answers whether all of it found room. */
    static boolean give(PolicyText x, String text) {
        boolean all = true;
        for (int from = 0; from < text.length(); from += 8) {
            int to = Math.min(from + 8, text.length());
            long v = 0;
            for (int i = from; i < to; i++) {
                v = v << 8 | text.charAt(i) & 255;
            }
            all &= x.give(v, to - from);
        }
        return all;
    }

    static int readOf(PolicyText x, String text) {
        x.cut(0);
        give(x, text);
        return x.read();
    }

    static String bytes(PolicyText x, boolean text) {
        StringBuilder all = new StringBuilder();
        int length = x.look(text ? 2 : 3);
        for (int k = 0; k < length; k++) {
            all.append((char) x.byteAt(k, text));
        }
        return all.toString();
    }
}
