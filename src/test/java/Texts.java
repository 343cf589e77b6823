/** Texts that stand at a limit of the document, or beside it. */
final class Texts {
    private Texts() {
    }

    /** So many COUNTERS, a b c .. */
    static String counters(int many) {
        StringBuilder all = new StringBuilder();
        for (int k = 0; k < many; k++) {
            all.append("(counter ").append((char) ('a' + k)).append(" 1)");
        }
        return all.toString();
    }

    /** So many NODES, a b c .. */
    static String nodes(int many) {
        StringBuilder all = new StringBuilder();
        for (int k = 0; k < many; k++) {
            all.append("(node ").append((char) ('a' + k)).append(")");
        }
        return all.toString();
    }

    /** So many WAYS, packed closely, eight a NODE: 21 bytes each, and 24 PRINTED. */
    static String wide(int ways) {
        StringBuilder all = new StringBuilder();
        for (int w = 0; w < ways; w++) {
            if (w % 8 == 0) {
                all.append(w > 0 ? ")" : "").append("(node ").append((char) ('a' + w / 8));
            }
            all.append("(go 1(arg 0 less 0)a)");
        }
        return all.append(")").toString();
    }

    /** A text that is PRINTED as so many bytes, 4086 .. 4097, and shorter itself. */
    static String printedAs(int bytes) {
        return wide(162) + "(node " + "z".repeat(bytes - 4085) + ")";
    }
}
