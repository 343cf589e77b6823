/** Texts that stand at a limit of the document, or beside it. */
final class Texts {
    private Texts() {
    }

    /** So many COUNTERS, a b c .. */
    static String counters(int many) {
        StringBuilder all = new StringBuilder();
        for (int k = 0; k < many; k++) {
            all.append("(counter ").append((char) ('a' + k)).append(" 1)");
        }
        return all.toString();
    }

    /** So many NODES, a b c .. */
    static String nodes(int many) {
        StringBuilder all = new StringBuilder();
        for (int k = 0; k < many; k++) {
            all.append("(node ").append((char) ('a' + k)).append(")");
        }
        return all.toString();
    }

    /** So many WAYS, packed closely, eight a NODE: 21 bytes each, and 24 PRINTED. */
    static String wide(int ways) {
        StringBuilder all = new StringBuilder();
        for (int w = 0; w < ways; w++) {
            if (w % 8 == 0) {
                all.append(w > 0 ? ")" : "").append("(node ").append((char) ('a' + w / 8));
            }
            all.append("(go 1(arg 0 less 0)a)");
        }
        return all.append(")").toString();
    }

    /** A text that is PRINTED as so many bytes, 4086 .. 4097, and shorter itself. */
    static String printedAs(int bytes) {
        return wide(162) + "(node " + "z".repeat(bytes - 4085) + ")";
    }

    /**
     * As many COUNTERS, RULES, NODES and WAYS as there may be, with 4 TESTS in the first and last
     * of them; packed closely, or as it is PRINTED.
     */
    static String most(boolean printed) {
        StringBuilder all = new StringBuilder();
        String gap = printed ? " " : "";
        for (int k = 0; k < 30; k++) {
            boolean ways = k >= 6;
            all.append(ways ? "(node " : "(counter ").append(mostName(ways, ways ? k - 6 : k));
            all.append(ways ? "" : " " + (15 - k));
            for (int j = 0; j < (ways ? 8 : 4); j++) {
                all.append(gap).append(mostClause(ways, ways ? k - 6 : k, j, gap));
            }
            all.append(printed ? ")\n" : ")");
        }
        return all.toString();
    }

    static String mostName(boolean ways, int k) {
        return String.valueOf((char) ((ways ? 'a' : 'p') + k));
    }

    static int mostCall(boolean ways, int k, int j) {
        return mostTests(ways, k, j) == 4 ? 16 : (k + 3 * j) % 17;
    }

    /** 1 for up, 0 for zero, or the NODE. */
    static int mostGoal(boolean ways, int k, int j) {
        return ways ? (k * 5 + j) % 24 : (k + j) % 2;
    }

    static int mostTests(boolean ways, int k, int j) {
        boolean outer = (k == 0 || k == (ways ? 23 : 5)) && (j == 0 || j == (ways ? 7 : 3));
        return outer ? 4 : (k + j) % 3 == 0 ? 1 : 0;
    }

    static int mostThan(boolean ways, int k, int j, int i) {
        return (ways ? 1 : -1) * (k * 32 + j * 4 + i);
    }

    private static String mostClause(boolean ways, int k, int j, String gap) {
        int call = mostCall(ways, k, j);
        int goal = mostGoal(ways, k, j);
        StringBuilder all = new StringBuilder(ways ? "(go " : goal == 1 ? "(up " : "(zero ");
        all.append(call == 16 ? "any" : String.valueOf(call));
        int tests = mostTests(ways, k, j);
        for (int i = 0; i < tests; i++) {
            all.append(gap).append(i % 2 == 1 ? "(arg 1" : "(count " + mostName(false, (k + j) % 6));
            all.append(" same ").append(mostThan(ways, k, j, i)).append(")");
        }
        if (ways) {
            all.append(tests > 0 ? gap : " ").append(mostName(true, goal));
        }
        return all.append(")").toString();
    }
}
